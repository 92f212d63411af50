/-! PURE: whose prints those are: the class's numbers are the reference's -/
section FIT2
variable {t : TW}
def r0 : Nat → Nat := fun _ => 0
theorem ub_0 {row : Nat → Nat} {nt : Nat} : ub t row nt 0 = 0 := rfl
theorem cW_fst {w : Nat → Nat → Nat} {j : Nat} (hj : j < t 0 8) (hf : fst t j = true) : cW t w (t 16 j) (t 0 8) 0 0 = cW t w (t 16 j) (t 0 8 - j) j 0 := by
  have := cW_skip (t := t) (w := w) (nt := t 16 j) (out := 0) j (t 0 8 - j) 0 (fun i _ h2 => fst_t.mp hf i (by omega))
  rw [show j + (t 0 8 - j) = t 0 8 by omega, Nat.zero_add] at this
  exact this
theorem nrk_c (hW : WT t) {j : Nat} (hj : j < t 0 8) : nrk t j = if fst t j then cW t w1 (t 16 j) (t 0 8) 0 0 else 1 := by
  have w := hW.1
  unfold nrk
  split
  · next hf => rw [(cn_cW (by omega) (by omega) 5 j 0 (wsK t j) (by omega) (by omega)).1, cW_fst hj hf]
  · rfl
theorem fit_rows (hW : WT t) : pro (nrk t) (t 0 8) = aW t w1 (t 0 8) 0 r0 := by
  rw [aW_pro w1 (t 0 8) 0 r0 (Nat.zero_add _)]
  exact pro_cg _ (fun i hi => by rw [nrk_c hW hi]; rfl)
theorem wsK_z (hW : WT t) {i : Nat} (hi : ¬ (i / 6 < t 0 8 ∧ i % 6 < t 0 5)) : ∀ n, n ≤ t 0 8 → wsK t n i = 0 := by
  have w := hW.1
  intro n
  induction n with
  | zero => intro _; rfl
  | succ n ih =>
    intro hn
    rw [wsK]
    split
    · rw [(cn_cW (by omega) (by omega) 5 n 0 (wsK t n) (by omega) (by omega)).2 i, ih (by omega)]
      unfold ctr
      rw [if_neg (fun y => hi ⟨y.2.1, y.2.2.2⟩)]
    · exact ih (by omega)
theorem wsK_i (hW : WT t) {k p j0 : Nat} (hk : k < t 0 8) (hp : p < t 0 5) (h1 : j0 ≤ k) (h2 : t 16 j0 = t 16 k) (h3 : fst t j0 = true) : ∀ n, n ≤ t 0 8 → wsK t n (6 * k + p) = if j0 < n then cW t (wj k p) (t 16 k) (t 0 8) 0 0 else 0 := by
  have w := hW.1
  intro n
  induction n with
  | zero => intro _; rw [if_neg (by omega)]; rfl
  | succ n ih =>
    intro hn
    have i1 := ih (by omega)
    rw [wsK]
    have d1 : (6 * k + p) / 6 = k := by omega
    have d2 : (6 * k + p) % 6 = p := by omega
    by_cases hf : fst t n = true
    · rw [if_pos hf, (cn_cW (by omega) (by omega) 5 n 0 (wsK t n) (by omega) (by omega)).2 (6 * k + p), i1]
      unfold ctr
      rw [d1, d2]
      by_cases e : n = j0
      · subst e
        rw [if_neg (by omega), if_pos ⟨h1, hk, h2.symm, hp⟩, if_pos (by omega), ← h2, cW_fst (by omega) h3, Nat.zero_add]
      · rw [if_neg (show ¬ (n ≤ k ∧ k < t 0 8 ∧ t 16 k = t 16 n ∧ p < t 0 5) from fun y => e (fst_u hf h3 (by rw [h2]; exact y.2.2.1.symm))), Nat.add_zero]
        by_cases c : j0 < n
        · rw [if_pos c, if_pos (by omega)]
        · rw [if_neg c, if_neg (by omega)]
    · rw [if_neg hf, i1]
      by_cases c : j0 < n
      · rw [if_pos c, if_pos (by omega)]
      · rw [if_neg c, if_neg (fun y => hf (by rw [show n = j0 by omega]; exact h3))]
theorem fit_cnt (hW : WT t) {k p : Nat} (hk : k < t 0 8) (hp : p < t 0 5) : wfK t (t 0 8) (6 * k + p) = aW t (wj k p) (t 0 8) 0 r0 := by
  have w := hW.1
  obtain ⟨j0, h1, h2, h3⟩ := fst_ex (t := t) k
  have d1 : (6 * k + p) / 6 = k := by omega
  have d2 : (6 * k + p) % 6 = p := by omega
  unfold wfK
  rw [d1, d2, if_pos ⟨hk, hp⟩, wsK_i hW hk hp h1 h2 h3 (t 0 8) (Nat.le_refl _), if_pos (by omega), aW_pro (wj k p) (t 0 8) 0 r0 (Nat.zero_add _), pro_at (f := fun j => if fst t j then cW t (wj k p) (t 16 j) (t 0 8) 0 (ub t r0 (t 16 j) 0) else 1) (t 0 8) (show j0 < t 0 8 by omega)]
  congr 1
  · show _ = if fst t j0 then cW t (wj k p) (t 16 j0) (t 0 8) 0 0 else 1
    rw [if_pos h3, h2]
  · unfold otR
    refine pro_cg _ (fun j hj => ?_)
    by_cases e : j = j0
    · subst e; rw [upN_at, if_pos h2]
    · rw [upN_ne _ e]
      show _ = if fst t j then cW t (wj k p) (t 16 j) (t 0 8) 0 0 else 1
      by_cases c : t 16 j = t 16 k
      · rw [if_pos c, if_neg (fun y => e (fst_u y h3 (by rw [h2]; exact c)))]
      · rw [if_neg c, nrk_c hW hj]
        split
        · exact cW_w _ _ _ (fun a b _ _ q => by
            unfold w1 wj
            rw [if_neg (fun y => c (by rw [← q, y]))])
        · rfl
theorem sm_le0 {f : Nat → Nat} {b : Nat} : ∀ n, (∀ i, i < n → f i ≤ b) → sm f n ≤ n * b
  | 0, _ => by show 0 ≤ _; exact Nat.zero_le _
  | n + 1, h => by
    show sm f n + f n ≤ (n + 1) * b
    have := sm_le0 n (fun i hi => h i (by omega))
    have := h n (by omega)
    rw [Nat.add_mul, Nat.one_mul]; omega
theorem aW_le (h5 : t 0 5 ≤ 6) {w : Nat → Nat → Nat} (hw : ∀ k p, w k p ≤ 1) : ∀ n k row, aW t w n k row ≤ 6 ^ n
  | 0, k, row => Nat.le_refl _
  | n + 1, k, row => by
    rw [aW]
    refine Nat.le_trans (sm_le0 (b := 6 ^ n) (t 0 5) (fun p _ => ?_)) ?_
    · show (if _ then _ else _) ≤ _
      split
      · have := aW_le h5 hw n (k + 1) (upN row k p)
        have := Nat.mul_le_mul (hw k p) this
        rw [Nat.one_mul] at this; exact this
      · exact Nat.zero_le _
    · rw [Nat.pow_succ, Nat.mul_comm]; exact Nat.mul_le_mul_left _ h5
theorem wj_le (j q k p : Nat) : wj j q k p ≤ 1 := by unfold wj; split; split; exact Nat.le_refl _; exact Nat.zero_le _; exact Nat.le_refl _
theorem aW_b (hW : WT t) {w : Nat → Nat → Nat} (hw : ∀ k p, w k p ≤ 1) : aW t w (t 0 8) 0 r0 ≤ 7776 := Nat.le_trans (aW_le hW.1.2.2.2.2.2.1 hw (t 0 8) 0 r0) (Nat.pow_le_pow_right (n := 6) (by decide) (show t 0 8 ≤ 5 from hW.1.2.2.2.2.2.2.2.2))
theorem rows_b (hW : WT t) : pro (nrk t) (t 0 8) ≤ 7776 := by rw [fit_rows hW]; exact aW_b hW (fun _ _ => Nat.le_refl _)
theorem wfK_b (hW : WT t) (i : Nat) : wfK t (t 0 8) i ≤ 7776 := by
  by_cases c : i / 6 < t 0 8 ∧ i % 6 < t 0 5
  · have := fit_cnt hW c.1 c.2
    rw [show 6 * (i / 6) + i % 6 = i by omega] at this
    rw [this]; exact aW_b hW (wj_le _ _)
  · unfold wfK
    rw [if_neg c, wsK_z hW c (t 0 8) (Nat.le_refl _)]; exact Nat.zero_le _
/-- the reference's end -/
theorem fE_end (hW : WT t) : (fE t (t 0 8) 0 r0 (0, r0)).1 = pro (nrk t) (t 0 8) ∧ ∀ k p, k < t 0 8 → p < t 0 5 → (fE t (t 0 8) 0 r0 (0, r0)).2 (6 * k + p) = wfK t (t 0 8) (6 * k + p) := by
  have w := hW.1
  refine ⟨by rw [fE_1, fit_rows hW]; exact Nat.zero_add _, fun k p hk hp => ?_⟩
  rw [fE_2 (by omega) hk (by omega) (t 0 8) 0 r0 (0, r0) (Nat.zero_add _) (fun i hi => absurd hi (Nat.not_lt_zero _)), if_neg (by omega), fit_cnt hW hk hp]
  exact Nat.zero_add _
/-- bounds on the way: no number grows past what all rows are -/
theorem fE_up1 : ∀ n k row S, S.1 ≤ (fE t n k row S).1 := fun n k row S => by rw [fE_1]; exact Nat.le_add_right _ _
end FIT2
