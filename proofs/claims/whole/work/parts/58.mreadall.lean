/-! the reference: readLine, readAll -/
theorem GB.ut {t : TW} (h : GB t) {r i x : Nat} (hx : x ≤ 99999) : GB (ut t r i x) := fun r' i' => by
  by_cases q : r' = r ∧ i' = i
  · rw [q.1, q.2, ut_at]; exact hx
  · rw [ut_ne _ _ q]; exact h r' i'
theorem tE_p (B : Nat → Nat) (n p : Nat) : p ≤ tE B n p := Nat.le_trans (tA_ge B n p) (tE_ge B n p)
theorem pW_p {B : Nat → Nat} {n i p q : Nat} (h : pW B n i p = .inr q) : p ≤ q := by
  unfold pW at h; split at h
  · injection h with h; rw [← h]; exact tE_p B n p
  · cases h
theorem pN_p {B : Nat → Nat} {n lo hi p : Nat} {q : Nat × Nat} (h : pN B n lo hi p = .inr q) : p ≤ q.1 := by
  unfold pN at h; split at h
  · cases h
  · split at h
    · cases h
    · injection h with h; rw [← h]; exact tE_p B n p
theorem pL_p {B : Nat → Nat} {n m p : Nat} {q : Nat × Nat} (h : pL B n m p = .inr q) : p ≤ q.1 := by
  unfold pL at h; split at h
  · cases h
  · split at h
    · cases h
    · split at h
      · cases h
      · injection h with h; rw [← h]; exact tE_p B n p
theorem pK_p {B : Nat → Nat} {n p : Nat} {q : Nat × Nat} (h : pK B n p = .inr q) : p ≤ q.1 := by
  unfold pK at h; split at h
  · injection h with h; rw [← h]; exact tE_p B n p
  · split at h
    · injection h with h; rw [← h]; exact tE_p B n p
    · split at h
      · injection h with h; rw [← h]; exact tE_p B n p
      · cases h
theorem nN_p {B : Nat → Nat} {n s k p : Nat} {N : NS} {q : Nat × NS} (h : nN B n N s k p = .inr q) : p ≤ q.1 := by rw [(nN_r h).1]; exact tE_p B n p
theorem GB.pM {t : TW} (h : GB t) (p u l : Nat) : GB (pMk t p u l) := by
  have a4 : ∀ y : Nat, y % 4 ≤ 99999 := fun y => by have := Nat.mod_lt y (show 0 < 4 by decide); omega
  unfold pMk
  exact ((((h.ut (a4 _)).ut (a4 _)).ut (a4 _)).ut (a4 _)).ut (a4 _)
theorem li_more {B : Nat → Nat} {n : Nat} {s s' : RS} (I : WI s) (hg : GB s.2.2) (h : liA B n s = .inr s') : GB s'.2.2 ∧ s.1 ≤ s'.1 := by
  obtain ⟨p, N, t⟩ := s
  obtain ⟨hN, hW, hL⟩ := I
  have hN : NI N t := hN
  have hW : WT t := hW
  have hL : LL t := hL
  have w := hW.1
  have hJ := hN.nj
  have hg : GB t := hg
  show _ ∧ p ≤ s'.1
  have hE0 := tE_p B n p
  unfold liA at h
  dsimp only at h
  by_cases e7 : lsN B n p = 7
  · rw [if_pos e7] at h; exact absurd h (by simp)
  rw [if_neg e7] at h
  by_cases e0 : lsN B n p = 0
  · rw [if_pos e0] at h
    by_cases ht : 0 < t 0 2
    · rw [if_pos ht] at h; exact absurd h (by simp)
    rw [if_neg ht] at h
    obtain ⟨p2, y1, h⟩ := eb_inr h
    obtain ⟨a, ha, h⟩ := eb_inr h
    obtain ⟨p4, y2, h⟩ := eb_inr h
    obtain ⟨b, hb, h⟩ := eb_inr h
    obtain ⟨p6, y3, h⟩ := eb_inr h
    obtain ⟨c, hc, h⟩ := eb_inr h
    have y1 := pW_p y1
    have y2 := pW_p y2
    have y3 := pW_p y3
    have y4 := pN_p ha
    have y5 := pN_p hb
    have y6 := pN_p hc
    injection h with h
    subst h
    have ha := pN_r ha
    have hb := pN_r hb
    have hc := pN_r hc
    exact ⟨((hg.ut (by omega)).ut (by omega)).ut (by omega), by show p ≤ c.1; dsimp only at *; omega⟩
  rw [if_neg e0] at h
  by_cases ht : ¬ 0 < t 0 2
  · rw [if_pos ht] at h; exact absurd h (by simp)
  have ht : 0 < t 0 2 := Decidable.of_not_not ht
  rw [if_neg (fun q => q ht)] at h
  by_cases e1 : lsN B n p = 1
  · rw [if_pos e1] at h
    by_cases hc : ¬ t 0 3 < 6
    · rw [if_neg hc] at h; exact absurd h (by simp)
    have hc : t 0 3 < 6 := Decidable.of_not_not hc
    rw [if_pos hc] at h
    obtain ⟨a, ha, h⟩ := eb_inr h
    obtain ⟨p3, y1, h⟩ := eb_inr h
    obtain ⟨b, hb, h⟩ := eb_inr h
    injection h with h
    subst h
    have y0 := nN_p ha
    have y1 := pW_p y1
    have y2 := pN_p hb
    have hb := pN_r hb
    exact ⟨(hg.ut (by omega)).ut (by show t 0 3 + 1 ≤ 99999; omega), by show p ≤ b.1; dsimp only at *; omega⟩
  rw [if_neg e1] at h
  by_cases e2 : lsN B n p = 2
  · rw [if_pos e2] at h
    by_cases hc : ¬ t 0 4 < 9
    · rw [if_neg hc] at h; exact absurd h (by simp)
    have hc : t 0 4 < 9 := Decidable.of_not_not hc
    rw [if_pos hc] at h
    obtain ⟨a, ha, h⟩ := eb_inr h
    obtain ⟨b, hb, h⟩ := eb_inr h
    dsimp only at h
    by_cases hq : b = a ∨ 0 < t 2 (6 * a + b)
    · rw [if_pos hq] at h; exact absurd h (by simp)
    rw [if_neg hq] at h
    obtain ⟨p4, y1, h⟩ := eb_inr h
    obtain ⟨c, hx, h⟩ := eb_inr h
    injection h with h
    subst h
    have y1 := pW_p y1
    have y2 := pN_p hx
    have hx := pN_r hx
    have y3 := tE_p B n (tE B n p)
    have y4 := tE_p B n (tE B n (tE B n p))
    exact ⟨((hg.ut (by omega)).ut (by omega)).ut (by show t 0 4 + 1 ≤ 99999; omega), by show p ≤ c.1; dsimp only at *; omega⟩
  rw [if_neg e2] at h
  by_cases e3 : lsN B n p = 3
  · rw [if_pos e3] at h
    by_cases hc : ¬ t 0 5 < 6
    · rw [if_neg hc] at h; exact absurd h (by simp)
    have hc : t 0 5 < 6 := Decidable.of_not_not hc
    rw [if_pos hc] at h
    obtain ⟨a, ha, h⟩ := eb_inr h
    obtain ⟨k, hk, h⟩ := eb_inr h
    obtain ⟨p4, y1, h⟩ := eb_inr h
    obtain ⟨hh, hhh, h⟩ := eb_inr h
    obtain ⟨p5, y2, h⟩ := eb_inr h
    obtain ⟨x, hx, h⟩ := eb_inr h
    obtain ⟨p7, y3, h⟩ := eb_inr h
    obtain ⟨u, y4, h⟩ := eb_inr h
    obtain ⟨p9, y5, h⟩ := eb_inr h
    obtain ⟨l, y6, h⟩ := eb_inr h
    have y0 := nN_p ha
    have yk := pK_p hk
    have y1 := pW_p y1
    have y2 := pW_p y2
    have y3 := pW_p y3
    have y4 := pL_p y4
    have y5 := pW_p y5
    have y6 := pL_p y6
    have y7 := pN_p hx
    have y8 := tE_p B n p4
    have k2 := pK_r hk
    injection h with h
    subst h
    have ha := nN_r ha
    have hx := pN_r hx
    have hJ2 : NJ a.2 (t 0 3) (t 0 5 + 1) := by rw [ha.1]; exact hJ.ad (by decide) (fun q => absurd q (by decide)) (fun _ => Nat.lt_succ_self _) (Nat.le_refl _) (Nat.le_succ _)
    have hh3 := (fN_lt hJ2 hhh).1 rfl
    exact ⟨((((hg.ut (by omega)).ut (by omega)).ut (by omega)).pM _ _ _).ut (by show t 0 5 + 1 ≤ 99999; omega), by show p ≤ l.1; dsimp only at *; omega⟩
  rw [if_neg e3] at h
  by_cases e4 : lsN B n p = 4
  · rw [if_pos e4] at h
    by_cases hc : ¬ t 0 6 < 5
    · rw [if_neg hc] at h; exact absurd h (by simp)
    have hc : t 0 6 < 5 := Decidable.of_not_not hc
    rw [if_pos hc] at h
    obtain ⟨a, ha, h⟩ := eb_inr h
    obtain ⟨p3, y1, h⟩ := eb_inr h
    obtain ⟨x, hx, h⟩ := eb_inr h
    obtain ⟨p5, y2, h⟩ := eb_inr h
    obtain ⟨f, hf, h⟩ := eb_inr h
    obtain ⟨p6, y3, h⟩ := eb_inr h
    obtain ⟨g, hgg, h⟩ := eb_inr h
    have y0 := nN_p ha
    have y1 := pW_p y1
    have y2 := pW_p y2
    have y3 := pW_p y3
    have y4 := pN_p hx
    have y5 := tE_p B n p5
    have y6 := tE_p B n p6
    dsimp only at h
    by_cases hq : g = f
    · rw [if_pos hq] at h; exact absurd h (by simp)
    rw [if_neg hq] at h
    injection h with h
    subst h
    have ha := nN_r ha
    have hx := pN_r hx
    have hJ2 : NJ a.2 (t 0 3) (t 0 5) := by rw [ha.1]; exact hJ.ad (by decide) (fun q => absurd q (by decide)) (fun q => absurd q (by decide)) (Nat.le_refl _) (Nat.le_refl _)
    have f3 := (fN_lt hJ2 hf).1 rfl
    have g3 := (fN_lt hJ2 hgg).1 rfl
    exact ⟨(((hg.ut (by omega)).ut (by omega)).ut (by omega)).ut (by show t 0 6 + 1 ≤ 99999; omega), by show p ≤ tE B n p6; dsimp only at *; omega⟩
  rw [if_neg e4] at h
  by_cases e5 : lsN B n p = 5
  · rw [if_pos e5] at h
    by_cases hc : ¬ t 0 7 < 8
    · rw [if_neg hc] at h; exact absurd h (by simp)
    have hc : t 0 7 < 8 := Decidable.of_not_not hc
    rw [if_pos hc] at h
    obtain ⟨v, hv, h⟩ := eb_inr h
    obtain ⟨a, ha, h⟩ := eb_inr h
    obtain ⟨p4, y1, h⟩ := eb_inr h
    obtain ⟨x, hx, h⟩ := eb_inr h
    injection h with h
    subst h
    have y1 := pW_p y1
    have y2 := pN_p hx
    have hx := pN_r hx
    have y3 := tE_p B n (tE B n p)
    have y4 := tE_p B n (tE B n (tE B n p))
    have v3 := (fN_lt hJ hv).2 rfl
    have a3 := (fN_lt hJ ha).1 rfl
    exact ⟨(((hg.ut (by omega)).ut (by omega)).ut (by omega)).ut (by show t 0 7 + 1 ≤ 99999; omega), by show p ≤ x.1; dsimp only at *; omega⟩
  rw [if_neg e5] at h
  by_cases hc : ¬ t 0 8 < 5
  · rw [if_neg hc] at h; exact absurd h (by simp)
  have hc : t 0 8 < 5 := Decidable.of_not_not hc
  rw [if_pos hc] at h
  obtain ⟨v, hv, h⟩ := eb_inr h
  obtain ⟨a, ha, h⟩ := eb_inr h
  obtain ⟨p4, y1, h⟩ := eb_inr h
  obtain ⟨x, hx, h⟩ := eb_inr h
  injection h with h
  subst h
  have y0 := pL_p ha
  have y1 := pW_p y1
  have y2 := pN_p hx
  have hx := pN_r hx
  have a3 := pL_r ha
  have y3 := tE_p B n (tE B n p)
  have v3 := (fN_lt hJ hv).1 rfl
  exact ⟨(((hg.ut (by omega)).ut (by omega)).ut (by omega)).ut (by show t 0 8 + 1 ≤ 99999; omega), by show p ≤ x.1; dsimp only at *; omega⟩
section M13n
variable {G : GG} {post : PT} {mi : MI} {ml : ML} {mr : MR} {dom : List Nat} {M : Nat} {t : TW} {B : Nat → Nat} {n p : Nat} {N : NS}
theorem lsN_is {k : Nat} (hk : k < 7) (h : tS B n p = 1 ∧ tH B n p = kc k) (hb : ∀ j, j < k → ¬ (tS B n p = 1 ∧ tH B n p = kc j)) : lsN B n p = k := by
  have h7 := lsN_lt hk h.1 h.2
  have hs := rq_stop (fun k => !(decide (tS B n p = 1) && decide (tH B n p = kc k))) 7 0 h7
  have hs : (!(decide (tS B n p = 1) && decide (tH B n p = kc (lsN B n p)))) = false := hs
  rw [Bool.not_eq_false', Bool.and_eq_true, decide_eq_true_eq, decide_eq_true_eq] at hs
  rcases Nat.lt_trichotomy (lsN B n p) k with q | q | q
  · exact absurd hs (hb _ q)
  · exact q
  · have h2 := (rq_in (fun k => !(decide (tS B n p = 1) && decide (tH B n p = kc k))) 7 0 k (Nat.zero_le _) q).1
    rw [decide_eq_true h.1, decide_eq_true h.2] at h2
    exact absurd h2 (by decide)
def hUp (t : TW) : Prop := t 0 2 = 0 → t 0 3 = 0 ∧ t 0 4 = 0 ∧ t 0 5 = 0 ∧ t 0 6 = 0 ∧ t 0 7 = 0 ∧ t 0 8 = 0
theorem m_readLine (hX : XM mr) (hM : MM M) (hY : XT mr M) (hRd : mr 1000 4 = some M) (hB : RBM mi B n) (hg : GB t) (hW : WT t) (hI : NI N t) (hU : hUp t) (hR : RM mi M t) (hN : RNM mi ml M N) (hz : MZ mi ml B n (.inr p)) (hp : hML post B n M mi ml mr dom (liA B n (p, N, t))) : CT G 12 0 0 yX13_readLine cX13_readLine 1 none [.ref 1000] mi ml mr dom post := by
  refine enter 0 (by decide) rfl rfl (fun X => ?_)
  refine j_aload_n dX13_readLine_0 rfl rfl ?_
  refine j_ldcS13_143 dX13_readLine_1 ?_
  refine cV13_121 (d1 := 7) rfl dX13_readLine_3 (by decide) (Nat.le_of_ble_eq_true rfl) ?_
  refine m_isWord (i := 0) (by decide) hz ?_
  refine j_if_eq (tgt := 16) dX13_readLine_6 (by decide) (fun h6 => ?_) (fun h6 => ?_)
  all_goals rw [bN_eq0] at h6
  · refine j_aload_n dX13_readLine_16 rfl rfl ?_
    refine j_ldcS13_145 dX13_readLine_17 ?_
    refine cV13_121 (d1 := 7) rfl dX13_readLine_19 (by decide) (Nat.le_of_ble_eq_true rfl) ?_
    refine m_isWord (i := 1) (by decide) hz ?_
    refine j_if_eq (tgt := 32) dX13_readLine_22 (by decide) (fun h22 => ?_) (fun h22 => ?_)
    all_goals rw [bN_eq0] at h22
    · refine j_aload_n dX13_readLine_32 rfl rfl ?_
      refine j_ldcS13_147 dX13_readLine_33 ?_
      refine cV13_121 (d1 := 7) rfl dX13_readLine_35 (by decide) (Nat.le_of_ble_eq_true rfl) ?_
      refine m_isWord (i := 2) (by decide) hz ?_
      refine j_if_eq (tgt := 48) dX13_readLine_38 (by decide) (fun h38 => ?_) (fun h38 => ?_)
      all_goals rw [bN_eq0] at h38
      · refine j_aload_n dX13_readLine_48 rfl rfl ?_
        refine j_ldcS13_149 dX13_readLine_49 ?_
        refine cV13_121 (d1 := 7) rfl dX13_readLine_51 (by decide) (Nat.le_of_ble_eq_true rfl) ?_
        refine m_isWord (i := 3) (by decide) hz ?_
        refine j_if_eq (tgt := 64) dX13_readLine_54 (by decide) (fun h54 => ?_) (fun h54 => ?_)
        all_goals rw [bN_eq0] at h54
        · refine j_aload_n dX13_readLine_64 rfl rfl ?_
          refine j_ldcS13_151 dX13_readLine_65 ?_
          refine cV13_121 (d1 := 7) rfl dX13_readLine_67 (by decide) (Nat.le_of_ble_eq_true rfl) ?_
          refine m_isWord (i := 4) (by decide) hz ?_
          refine j_if_eq (tgt := 80) dX13_readLine_70 (by decide) (fun h70 => ?_) (fun h70 => ?_)
          all_goals rw [bN_eq0] at h70
          · refine j_aload_n dX13_readLine_80 rfl rfl ?_
            refine j_ldcS13_153 dX13_readLine_81 ?_
            refine cV13_121 (d1 := 7) rfl dX13_readLine_83 (by decide) (Nat.le_of_ble_eq_true rfl) ?_
            refine m_isWord (i := 5) (by decide) hz ?_
            refine j_if_eq (tgt := 96) dX13_readLine_86 (by decide) (fun h86 => ?_) (fun h86 => ?_)
            all_goals rw [bN_eq0] at h86
            · refine j_aload_n dX13_readLine_96 rfl rfl ?_
              refine j_ldcS13_155 dX13_readLine_97 ?_
              refine cV13_121 (d1 := 7) rfl dX13_readLine_99 (by decide) (Nat.le_of_ble_eq_true rfl) ?_
              refine m_isWord (i := 6) (by decide) hz ?_
              refine j_if_eq (tgt := 112) dX13_readLine_102 (by decide) (fun h102 => ?_) (fun h102 => ?_)
              all_goals rw [bN_eq0] at h102
              · refine j_aload_n dX13_readLine_112 rfl rfl ?_
                refine j_iconst (v := nI 1) dX13_readLine_113 (by decide) ?_
                refine cV13_125 (d1 := 1) rfl dX13_readLine_114 (by decide) (Nat.le_of_ble_eq_true rfl) ?_
                refine m_flawN (k := 1) hz (fun m1 f1 z1 => ?_)
                refine j_vret rfl dX13_readLine_117 ?_
                rw [decide_eq_false_iff_not] at h6
                rw [decide_eq_false_iff_not] at h22
                rw [decide_eq_false_iff_not] at h38
                rw [decide_eq_false_iff_not] at h54
                rw [decide_eq_false_iff_not] at h70
                rw [decide_eq_false_iff_not] at h86
                rw [decide_eq_false_iff_not] at h102
                have h7 : lsN B n p = 7 := by
                  refine lsN_7 (fun i hi => ?_)
                  have : i = 0 ∨ i = 1 ∨ i = 2 ∨ i = 3 ∨ i = 4 ∨ i = 5 ∨ i = 6 := by omega
                  rcases this with rfl | rfl | rfl | rfl | rfl | rfl | rfl
                  · exact h6
                  · exact h22
                  · exact h38
                  · exact h54
                  · exact h70
                  · exact h86
                  · exact h102
                have HL := liA_7 (N := N) (t := t) h7
                exact hp m1 ml (f1.fm M) (fun e9 he9 => by rw [HL] at he9; cases he9; exact z1) (fun s9 hs9 => by rw [HL] at hs9; cases hs9)
              · refine j_aload_n dX13_readLine_105 rfl rfl ?_
                refine cV13_220 (d1 := 11) rfl dX13_readLine_106 (by decide) (Nat.le_of_ble_eq_true rfl) ?_
                rw [decide_eq_false_iff_not] at h6
                rw [decide_eq_false_iff_not] at h22
                rw [decide_eq_false_iff_not] at h38
                rw [decide_eq_false_iff_not] at h54
                rw [decide_eq_false_iff_not] at h70
                rw [decide_eq_false_iff_not] at h86
                rw [Bool.not_eq_false, decide_eq_true_eq] at h102
                have hb9 : ∀ j, j < 6 → ¬ (tS B n p = 1 ∧ tH B n p = kc j) := fun j hj => by
                  have hc : j = 0 ∨ j = 1 ∨ j = 2 ∨ j = 3 ∨ j = 4 ∨ j = 5 := by omega
                  rcases hc with rfl | rfl | rfl | rfl | rfl | rfl
                  · exact h6
                  · exact h22
                  · exact h38
                  · exact h54
                  · exact h70
                  · exact h86
                have hls := lsN_is (k := 6) (by decide) h102 hb9
                refine m_readPrint hX hM hY hRd hB hg hW hI hU hR hN hz h102.1 hls (fun m l a1 a2 a3 => ?_)
                refine j_goto (tgt := 117) dX13_readLine_109 (by decide) ?_
                refine j_vret rfl dX13_readLine_117 ?_
                exact hp m l a1 a2 a3
            · refine j_aload_n dX13_readLine_89 rfl rfl ?_
              refine cV13_217 (d1 := 11) rfl dX13_readLine_90 (by decide) (Nat.le_of_ble_eq_true rfl) ?_
              rw [decide_eq_false_iff_not] at h6
              rw [decide_eq_false_iff_not] at h22
              rw [decide_eq_false_iff_not] at h38
              rw [decide_eq_false_iff_not] at h54
              rw [decide_eq_false_iff_not] at h70
              rw [Bool.not_eq_false, decide_eq_true_eq] at h86
              have hb9 : ∀ j, j < 5 → ¬ (tS B n p = 1 ∧ tH B n p = kc j) := fun j hj => by
                have hc : j = 0 ∨ j = 1 ∨ j = 2 ∨ j = 3 ∨ j = 4 := by omega
                rcases hc with rfl | rfl | rfl | rfl | rfl
                · exact h6
                · exact h22
                · exact h38
                · exact h54
                · exact h70
              have hls := lsN_is (k := 5) (by decide) h86 hb9
              refine m_readVisit hX hM hY hRd hB hg hW hI hU hR hN hz h86.1 hls (fun m l a1 a2 a3 => ?_)
              refine j_goto (tgt := 117) dX13_readLine_93 (by decide) ?_
              refine j_vret rfl dX13_readLine_117 ?_
              exact hp m l a1 a2 a3
          · refine j_aload_n dX13_readLine_73 rfl rfl ?_
            refine cV13_214 (d1 := 11) rfl dX13_readLine_74 (by decide) (Nat.le_of_ble_eq_true rfl) ?_
            rw [decide_eq_false_iff_not] at h6
            rw [decide_eq_false_iff_not] at h22
            rw [decide_eq_false_iff_not] at h38
            rw [decide_eq_false_iff_not] at h54
            rw [Bool.not_eq_false, decide_eq_true_eq] at h70
            have hb9 : ∀ j, j < 4 → ¬ (tS B n p = 1 ∧ tH B n p = kc j) := fun j hj => by
              have hc : j = 0 ∨ j = 1 ∨ j = 2 ∨ j = 3 := by omega
              rcases hc with rfl | rfl | rfl | rfl
              · exact h6
              · exact h22
              · exact h38
              · exact h54
            have hls := lsN_is (k := 4) (by decide) h70 hb9
            refine m_readGood hX hM hY hRd hB hg hW hI hU hR hN hz h70.1 hls (fun m l a1 a2 a3 => ?_)
            refine j_goto (tgt := 117) dX13_readLine_77 (by decide) ?_
            refine j_vret rfl dX13_readLine_117 ?_
            exact hp m l a1 a2 a3
        · refine j_aload_n dX13_readLine_57 rfl rfl ?_
          refine cV13_211 (d1 := 11) rfl dX13_readLine_58 (by decide) (Nat.le_of_ble_eq_true rfl) ?_
          rw [decide_eq_false_iff_not] at h6
          rw [decide_eq_false_iff_not] at h22
          rw [decide_eq_false_iff_not] at h38
          rw [Bool.not_eq_false, decide_eq_true_eq] at h54
          have hb9 : ∀ j, j < 3 → ¬ (tS B n p = 1 ∧ tH B n p = kc j) := fun j hj => by
            have hc : j = 0 ∨ j = 1 ∨ j = 2 := by omega
            rcases hc with rfl | rfl | rfl
            · exact h6
            · exact h22
            · exact h38
          have hls := lsN_is (k := 3) (by decide) h54 hb9
          refine m_readPerson hX hM hY hRd hB hg hW hI hU hR hN hz h54.1 hls (fun m l a1 a2 a3 => ?_)
          refine j_goto (tgt := 117) dX13_readLine_61 (by decide) ?_
          refine j_vret rfl dX13_readLine_117 ?_
          exact hp m l a1 a2 a3
      · refine j_aload_n dX13_readLine_41 rfl rfl ?_
        refine cV13_208 (d1 := 11) rfl dX13_readLine_42 (by decide) (Nat.le_of_ble_eq_true rfl) ?_
        rw [decide_eq_false_iff_not] at h6
        rw [decide_eq_false_iff_not] at h22
        rw [Bool.not_eq_false, decide_eq_true_eq] at h38
        have hb9 : ∀ j, j < 2 → ¬ (tS B n p = 1 ∧ tH B n p = kc j) := fun j hj => by
          have hc : j = 0 ∨ j = 1 := by omega
          rcases hc with rfl | rfl
          · exact h6
          · exact h22
        have hls := lsN_is (k := 2) (by decide) h38 hb9
        refine m_readLane hX hM hY hRd hB hg hW hI hU hR hN hz h38.1 hls (fun m l a1 a2 a3 => ?_)
        refine j_goto (tgt := 117) dX13_readLine_45 (by decide) ?_
        refine j_vret rfl dX13_readLine_117 ?_
        exact hp m l a1 a2 a3
    · refine j_aload_n dX13_readLine_25 rfl rfl ?_
      refine cV13_205 (d1 := 11) rfl dX13_readLine_26 (by decide) (Nat.le_of_ble_eq_true rfl) ?_
      rw [decide_eq_false_iff_not] at h6
      rw [Bool.not_eq_false, decide_eq_true_eq] at h22
      have hb9 : ∀ j, j < 1 → ¬ (tS B n p = 1 ∧ tH B n p = kc j) := fun j hj => by
        have hc : j = 0 := by omega
        rcases hc with rfl
        · exact h6
      have hls := lsN_is (k := 1) (by decide) h22 hb9
      refine m_readHouse hX hM hY hRd hB hg hW hI hU hR hN hz h22.1 hls (fun m l a1 a2 a3 => ?_)
      refine j_goto (tgt := 117) dX13_readLine_29 (by decide) ?_
      refine j_vret rfl dX13_readLine_117 ?_
      exact hp m l a1 a2 a3
  · refine j_aload_n dX13_readLine_9 rfl rfl ?_
    refine cV13_202 (d1 := 11) rfl dX13_readLine_10 (by decide) (Nat.le_of_ble_eq_true rfl) ?_
    rw [Bool.not_eq_false, decide_eq_true_eq] at h6
    have hls := lsN_is (k := 0) (by decide) h6 (fun j hj => absurd hj (Nat.not_lt_zero _))
    refine m_readTown hX hM hY hRd hB hg hW hI hU hR hN hz h6.1 hls (fun m l a1 a2 a3 => ?_)
    refine j_goto (tgt := 117) dX13_readLine_13 (by decide) ?_
    refine j_vret rfl dX13_readLine_117 ?_
    exact hp m l a1 a2 a3
theorem rd_fuel : ∀ k (s : RS), WI s → GB s.2.2 → n ≤ s.1 + k → rdA B n k s = rdA B n (k + 1) s
  | 0, s, I, hg, h => by
    have ha := tA_ge B n s.1
    have h0 : tS B n s.1 = 0 := by unfold tS; rw [if_pos (by omega)]
    have h7 : lsN B n s.1 = 7 := lsN_7 (fun i _ q => absurd (h0.symm.trans q.1) (by decide))
    obtain ⟨p, N, t⟩ := s
    show _ = eb (liA B n (p, N, t)) _
    rw [liA_7 h7]; rfl
  | k + 1, s, I, hg, h => by
    show eb (liA B n s) _ = eb (liA B n s) _
    cases hL : liA B n s with
    | inl e => rfl
    | inr s1 =>
      obtain ⟨hg1, hp1⟩ := li_more I hg hL
      have I1 := (li_inv I hL).1
      rw [eb_r, eb_r]
      by_cases h0 : tS B n s1.1 = 0
      · rw [if_pos h0, if_pos h0]
      · rw [if_neg h0, if_neg h0]
        by_cases h3 : tS B n s1.1 = 3
        · have h33 : ¬ ¬ tS B n s1.1 = 3 := fun q => q h3
          rw [if_neg h33, if_neg h33]
          have := tE_lt B h0
          have := tA_ge B n s1.1
          exact rd_fuel k (tE B n s1.1, s1.2) I1 hg1 (by show n ≤ tE B n s1.1 + k; omega)
        · rw [if_pos h3, if_pos h3]
theorem RBM.fm {m : MI} {l : ML} (h : RBM mi B n) (hM : MM M) (f : FM M mi ml m l) : RBM m B n := ⟨(f.2.2 7 (by omega)).trans h.1, h.2.1, by rw [f.1 1001 (by decide) (Or.inl (by have := hM.ge; omega))]; exact h.2.2⟩
theorem FM.tr {m m2 : MI} {l l2 : ML} (h : FM M mi ml m l) (h2 : FM M m l m2 l2) : FM M mi ml m2 l2 := ⟨fun a x y => (h2.1 a x y).trans (h.1 a x y), fun a x y => (h2.2.1 a x y).trans (h.2.1 a x y), fun j x => (h2.2.2 j x).trans (h.2.2 j x)⟩
theorem m_readAll (hX : XM mr) (hM : MM M) (hY : XT mr M) (hRd : mr 1000 4 = some M) (hB : RBM mi B n) (hR : RM mi M t00) (hN : RNM mi ml M n00) (hz : MZ mi ml B n (.inr 0)) (hp : hML post B n M mi ml mr dom (rdT B n)) : CT G 13 0 0 yX13_readAll cX13_readAll 2 none [.ref 1000] mi ml mr dom post := by
  have hge := hM.ge
  refine enter 1 (by decide) rfl rfl (fun X => ?_)
  refine j_iconst (v := nI 1) dX13_readAll_0 (by decide) ?_
  refine j_istore_n (lv2 := [_, _]) dX13_readAll_1 rfl (by decide) rfl rfl ?_
  skip
  have key : ∀ k, ∀ (s : RS) (m : MI) (l : ML), FM M mi ml m l → MZ m l B n (.inr s.1) → RM m M s.2.2 → RNM m l M s.2.1 → WI s → GB s.2.2 → hUp s.2.2 → n ≤ s.1 + k → rdA B n (k + 1) s = rdT B n → J cX13_readAll 2 yX13_readAll.cls yX13_readAll.name none 13 G X post 0 0 m l mr dom 2 [some (.ref 1000), some (.int (nI 1))] [] := by
    intro k
    induction k with
    | zero =>
      intro s m l f z0 rr0 nn0 hI hg hU hn hr
      refine j_iload_n dX13_readAll_2 rfl rfl ?_
      refine j_if_eq (tgt := 18) dX13_readAll_3 (by decide) (fun h3 => absurd h3 (by decide)) (fun h3 => ?_)
      refine j_aload_n dX13_readAll_6 rfl rfl ?_
      refine cV13_190 (d1 := 12) rfl dX13_readAll_7 (by decide) (Nat.le_of_ble_eq_true rfl) ?_
      refine m_readLine hX hM hY hRd (hB.fm hM f) hg hI.2.1 hI.1 hU rr0 nn0 z0 (fun m1 l1 F1 a1 a2 => ?_)
      rcases hL : liA B n s with e | s1
      · have z1 := a1 e hL
        have HR : rdT B n = .inl e := by
          rw [← hr]
          show eb (liA B n s) _ = _
          rw [hL]; rfl
        refine j_aload_n dX13_readAll_10 rfl rfl ?_
        refine cV13_193 (d1 := 3) rfl dX13_readAll_11 (by decide) (Nat.le_of_ble_eq_true rfl) ?_
        refine m_eatO z1.1 ?_
        refine j_istore_n (lv2 := [_, _]) dX13_readAll_14 rfl (by decide) rfl rfl ?_
        refine j_goto (tgt := 2) dX13_readAll_15 (by decide) ?_
        refine j_iload_n dX13_readAll_2 rfl rfl ?_
        refine j_if_eq (tgt := 18) dX13_readAll_3 (by decide) (fun h3 => ?_) (fun h3 => absurd (by decide) h3)
        refine j_aload_n dX13_readAll_18 rfl rfl ?_
        refine gI13_79 rfl dX13_readAll_19 ?_
        rw [z1.1]
        refine j_iconst (v := nI 1) dX13_readAll_22 (by decide) ?_
        refine j_icmp_eq (tgt := 31) dX13_readAll_23 (by decide) (fun h23 => absurd h23 (by decide)) (fun h23 => ?_)
        refine j_aload_n dX13_readAll_26 rfl rfl ?_
        refine j_iconst (v := nI 1) dX13_readAll_27 (by decide) ?_
        refine cV13_125 (d1 := 1) rfl dX13_readAll_28 (by decide) (Nat.le_of_ble_eq_true rfl) ?_
        refine m_flawO z1.1 ?_
        refine j_aload_n dX13_readAll_31 rfl rfl ?_
        refine gR13_157 rfl dX13_readAll_32 hRd ?_
        refine gI13_196 (kM0 hM) dX13_readAll_35 ?_
        skip
        refine j_if_eq (tgt := 51) dX13_readAll_38 (by decide) (fun h38 => ?_) (fun h38 => ?_)
        · refine j_aload_n dX13_readAll_51 rfl rfl ?_
          refine j_bipush (v := nI 6) dX13_readAll_52 (by decide) ?_
          refine cV13_125 (d1 := 1) rfl dX13_readAll_54 (by decide) (Nat.le_of_ble_eq_true rfl) ?_
          refine m_flawO z1.1 ?_
          refine j_vret rfl dX13_readAll_57 ?_
          exact hp m1 l1 (f.tr F1) (fun e9 he9 => by rw [HR] at he9; cases he9; exact z1) (fun s9 hs9 => by rw [HR] at hs9; cases hs9)
        · refine j_aload_n dX13_readAll_41 rfl rfl ?_
          refine gR13_157 rfl dX13_readAll_42 hRd ?_
          refine gI13_199 (kM0 hM) dX13_readAll_45 ?_
          skip
          refine j_if_ne (tgt := 57) dX13_readAll_48 (by decide) (fun h48 => ?_) (fun h48 => ?_)
          · refine j_vret rfl dX13_readAll_57 ?_
            exact hp m1 l1 (f.tr F1) (fun e9 he9 => by rw [HR] at he9; cases he9; exact z1) (fun s9 hs9 => by rw [HR] at hs9; cases hs9)
          · refine j_aload_n dX13_readAll_51 rfl rfl ?_
            refine j_bipush (v := nI 6) dX13_readAll_52 (by decide) ?_
            refine cV13_125 (d1 := 1) rfl dX13_readAll_54 (by decide) (Nat.le_of_ble_eq_true rfl) ?_
            refine m_flawO z1.1 ?_
            refine j_vret rfl dX13_readAll_57 ?_
            exact hp m1 l1 (f.tr F1) (fun e9 he9 => by rw [HR] at he9; cases he9; exact z1) (fun s9 hs9 => by rw [HR] at hs9; cases hs9)
      · obtain ⟨zz, rr, nn⟩ := a2 s1 hL
        obtain ⟨hg1, hp1⟩ := li_more hI hg hL
        obtain ⟨hI1, ht1⟩ := li_inv hI hL
        have HZ : rdT B n = (if tS B n s1.1 = 0 then (if s1.2.2 0 3 = 0 ∨ s1.2.2 0 5 = 0 then .inl (6, tA B n s1.1) else .inr s1) else if ¬ tS B n s1.1 = 3 then .inl (1, tA B n s1.1) else rdA B n 0 (tE B n s1.1, s1.2)) := by
          rw [← hr]
          show eb (liA B n s) _ = _
          rw [hL]; rfl
        have hcs : tS B n s1.1 = 3 ∨ tS B n s1.1 = 0 ∨ (tS B n s1.1 ≠ 0 ∧ tS B n s1.1 ≠ 3) := by omega
        refine j_aload_n dX13_readAll_10 rfl rfl ?_
        refine cV13_193 (d1 := 3) rfl dX13_readAll_11 (by decide) (Nat.le_of_ble_eq_true rfl) ?_
        rcases hcs with k3 | k0 | ⟨k0, k3⟩
        · refine m_eatY hX ((hB.fm hM f).fm hM F1) zz k3 (fun m2 l2 f2 z2 => ?_)
          refine j_istore_n (lv2 := [_, _]) dX13_readAll_14 rfl (by decide) rfl rfl ?_
          refine j_goto (tgt := 2) dX13_readAll_15 (by decide) ?_
          exfalso
          have q1 := tE_lt B (show tS B n s1.1 ≠ 0 by omega)
          have q2 := tA_ge B n s1.1
          have q3 : tE B n s1.1 ≤ n := tE_le B zz.1
          omega
        · refine m_eatN zz (by omega) ?_
          refine j_istore_n (lv2 := [_, _]) dX13_readAll_14 rfl (by decide) rfl rfl ?_
          refine j_goto (tgt := 2) dX13_readAll_15 (by decide) ?_
          refine j_iload_n dX13_readAll_2 rfl rfl ?_
          refine j_if_eq (tgt := 18) dX13_readAll_3 (by decide) (fun h3 => ?_) (fun h3 => absurd (by decide) h3)
          refine j_aload_n dX13_readAll_18 rfl rfl ?_
          refine gI13_79 rfl dX13_readAll_19 ?_
          rw [zz.2.1.2.1, show sM (tS B n s1.1) = 1 by rw [k0]; rfl]
          refine j_iconst (v := nI 1) dX13_readAll_22 (by decide) ?_
          refine j_icmp_eq (tgt := 31) dX13_readAll_23 (by decide) (fun h23 => ?_) (fun h23 => absurd (by decide) h23)
          refine j_aload_n dX13_readAll_31 rfl rfl ?_
          refine gR13_157 rfl dX13_readAll_32 hRd ?_
          refine gI13_196 (kM0 hM) dX13_readAll_35 ?_
          rw [rr.1 3 (by decide)]
          refine j_if_eq (tgt := 51) dX13_readAll_38 (by decide) (fun h38 => ?_) (fun h38 => ?_)
          all_goals rw [show (0 : Int32) = nI 0 from rfl, nI_eq (by have := hg1 0 3; omega) (by decide)] at h38
          · refine j_aload_n dX13_readAll_51 rfl rfl ?_
            refine j_bipush (v := nI 6) dX13_readAll_52 (by decide) ?_
            refine cV13_125 (d1 := 1) rfl dX13_readAll_54 (by decide) (Nat.le_of_ble_eq_true rfl) ?_
            refine m_flawN (k := 6) zz (fun m3 f3 z3 => ?_)
            refine j_vret rfl dX13_readAll_57 ?_
            have HR : rdT B n = .inl (6, tA B n s1.1) := by rw [HZ, if_pos k0, if_pos (by omega)]
            exact hp m3 l1 (f.tr (F1.tr (f3.fm M))) (fun e9 he9 => by rw [HR] at he9; cases he9; exact z3) (fun s9 hs9 => by rw [HR] at hs9; cases hs9)
          · refine j_aload_n dX13_readAll_41 rfl rfl ?_
            refine gR13_157 rfl dX13_readAll_42 hRd ?_
            refine gI13_199 (kM0 hM) dX13_readAll_45 ?_
            rw [rr.1 5 (by decide)]
            refine j_if_ne (tgt := 57) dX13_readAll_48 (by decide) (fun h48 => ?_) (fun h48 => ?_)
            all_goals rw [show (0 : Int32) = nI 0 from rfl, nI_eq (by have := hg1 0 5; omega) (by decide)] at h48
            · refine j_vret rfl dX13_readAll_57 ?_
              have HR : rdT B n = .inr s1 := by rw [HZ, if_pos k0, if_neg (by omega)]
              exact hp m1 l1 (f.tr F1) (fun e9 he9 => by rw [HR] at he9; cases he9) (fun s9 hs9 => by rw [HR] at hs9; cases hs9; exact ⟨zz, rr, nn⟩)
            · refine j_aload_n dX13_readAll_51 rfl rfl ?_
              refine j_bipush (v := nI 6) dX13_readAll_52 (by decide) ?_
              refine cV13_125 (d1 := 1) rfl dX13_readAll_54 (by decide) (Nat.le_of_ble_eq_true rfl) ?_
              refine m_flawN (k := 6) zz (fun m3 f3 z3 => ?_)
              refine j_vret rfl dX13_readAll_57 ?_
              have HR : rdT B n = .inl (6, tA B n s1.1) := by rw [HZ, if_pos k0, if_pos (by omega)]
              exact hp m3 l1 (f.tr (F1.tr (f3.fm M))) (fun e9 he9 => by rw [HR] at he9; cases he9; exact z3) (fun s9 hs9 => by rw [HR] at hs9; cases hs9)
        · refine m_eatN zz k3 ?_
          refine j_istore_n (lv2 := [_, _]) dX13_readAll_14 rfl (by decide) rfl rfl ?_
          refine j_goto (tgt := 2) dX13_readAll_15 (by decide) ?_
          refine j_iload_n dX13_readAll_2 rfl rfl ?_
          refine j_if_eq (tgt := 18) dX13_readAll_3 (by decide) (fun h3 => ?_) (fun h3 => absurd (by decide) h3)
          refine j_aload_n dX13_readAll_18 rfl rfl ?_
          refine gI13_79 rfl dX13_readAll_19 ?_
          rw [zz.2.1.2.1]
          refine j_iconst (v := nI 1) dX13_readAll_22 (by decide) ?_
          refine j_icmp_eq (tgt := 31) dX13_readAll_23 (by decide) (fun h23 => by exfalso; have h6 := sM_le (tS_le B n s1.1); rw [nI_eq (by omega) (by decide)] at h23; exact sM_k (tS_le B n s1.1) k0 (by decide) h23) (fun h23 => ?_)
          refine j_aload_n dX13_readAll_26 rfl rfl ?_
          refine j_iconst (v := nI 1) dX13_readAll_27 (by decide) ?_
          refine cV13_125 (d1 := 1) rfl dX13_readAll_28 (by decide) (Nat.le_of_ble_eq_true rfl) ?_
          refine m_flawN (k := 1) zz (fun m3 f3 z3 => ?_)
          refine j_aload_n dX13_readAll_31 rfl rfl ?_
          refine gR13_157 rfl dX13_readAll_32 hRd ?_
          refine gI13_196 (kM0 hM) dX13_readAll_35 ?_
          skip
          refine j_if_eq (tgt := 51) dX13_readAll_38 (by decide) (fun h38 => ?_) (fun h38 => ?_)
          · refine j_aload_n dX13_readAll_51 rfl rfl ?_
            refine j_bipush (v := nI 6) dX13_readAll_52 (by decide) ?_
            refine cV13_125 (d1 := 1) rfl dX13_readAll_54 (by decide) (Nat.le_of_ble_eq_true rfl) ?_
            refine m_flawO z3.1 ?_
            refine j_vret rfl dX13_readAll_57 ?_
            have HR : rdT B n = .inl (1, tA B n s1.1) := by rw [HZ, if_neg k0, if_pos k3]
            exact hp m3 l1 (f.tr (F1.tr (f3.fm M))) (fun e9 he9 => by rw [HR] at he9; cases he9; exact z3) (fun s9 hs9 => by rw [HR] at hs9; cases hs9)
          · refine j_aload_n dX13_readAll_41 rfl rfl ?_
            refine gR13_157 rfl dX13_readAll_42 hRd ?_
            refine gI13_199 (kM0 hM) dX13_readAll_45 ?_
            skip
            refine j_if_ne (tgt := 57) dX13_readAll_48 (by decide) (fun h48 => ?_) (fun h48 => ?_)
            · refine j_vret rfl dX13_readAll_57 ?_
              have HR : rdT B n = .inl (1, tA B n s1.1) := by rw [HZ, if_neg k0, if_pos k3]
              exact hp m3 l1 (f.tr (F1.tr (f3.fm M))) (fun e9 he9 => by rw [HR] at he9; cases he9; exact z3) (fun s9 hs9 => by rw [HR] at hs9; cases hs9)
            · refine j_aload_n dX13_readAll_51 rfl rfl ?_
              refine j_bipush (v := nI 6) dX13_readAll_52 (by decide) ?_
              refine cV13_125 (d1 := 1) rfl dX13_readAll_54 (by decide) (Nat.le_of_ble_eq_true rfl) ?_
              refine m_flawO z3.1 ?_
              refine j_vret rfl dX13_readAll_57 ?_
              have HR : rdT B n = .inl (1, tA B n s1.1) := by rw [HZ, if_neg k0, if_pos k3]
              exact hp m3 l1 (f.tr (F1.tr (f3.fm M))) (fun e9 he9 => by rw [HR] at he9; cases he9; exact z3) (fun s9 hs9 => by rw [HR] at hs9; cases hs9)
    | succ k ih =>
      intro s m l f z0 rr0 nn0 hI hg hU hn hr
      refine j_iload_n dX13_readAll_2 rfl rfl ?_
      refine j_if_eq (tgt := 18) dX13_readAll_3 (by decide) (fun h3 => absurd h3 (by decide)) (fun h3 => ?_)
      refine j_aload_n dX13_readAll_6 rfl rfl ?_
      refine cV13_190 (d1 := 12) rfl dX13_readAll_7 (by decide) (Nat.le_of_ble_eq_true rfl) ?_
      refine m_readLine hX hM hY hRd (hB.fm hM f) hg hI.2.1 hI.1 hU rr0 nn0 z0 (fun m1 l1 F1 a1 a2 => ?_)
      rcases hL : liA B n s with e | s1
      · have z1 := a1 e hL
        have HR : rdT B n = .inl e := by
          rw [← hr]
          show eb (liA B n s) _ = _
          rw [hL]; rfl
        refine j_aload_n dX13_readAll_10 rfl rfl ?_
        refine cV13_193 (d1 := 3) rfl dX13_readAll_11 (by decide) (Nat.le_of_ble_eq_true rfl) ?_
        refine m_eatO z1.1 ?_
        refine j_istore_n (lv2 := [_, _]) dX13_readAll_14 rfl (by decide) rfl rfl ?_
        refine j_goto (tgt := 2) dX13_readAll_15 (by decide) ?_
        refine j_iload_n dX13_readAll_2 rfl rfl ?_
        refine j_if_eq (tgt := 18) dX13_readAll_3 (by decide) (fun h3 => ?_) (fun h3 => absurd (by decide) h3)
        refine j_aload_n dX13_readAll_18 rfl rfl ?_
        refine gI13_79 rfl dX13_readAll_19 ?_
        rw [z1.1]
        refine j_iconst (v := nI 1) dX13_readAll_22 (by decide) ?_
        refine j_icmp_eq (tgt := 31) dX13_readAll_23 (by decide) (fun h23 => absurd h23 (by decide)) (fun h23 => ?_)
        refine j_aload_n dX13_readAll_26 rfl rfl ?_
        refine j_iconst (v := nI 1) dX13_readAll_27 (by decide) ?_
        refine cV13_125 (d1 := 1) rfl dX13_readAll_28 (by decide) (Nat.le_of_ble_eq_true rfl) ?_
        refine m_flawO z1.1 ?_
        refine j_aload_n dX13_readAll_31 rfl rfl ?_
        refine gR13_157 rfl dX13_readAll_32 hRd ?_
        refine gI13_196 (kM0 hM) dX13_readAll_35 ?_
        skip
        refine j_if_eq (tgt := 51) dX13_readAll_38 (by decide) (fun h38 => ?_) (fun h38 => ?_)
        · refine j_aload_n dX13_readAll_51 rfl rfl ?_
          refine j_bipush (v := nI 6) dX13_readAll_52 (by decide) ?_
          refine cV13_125 (d1 := 1) rfl dX13_readAll_54 (by decide) (Nat.le_of_ble_eq_true rfl) ?_
          refine m_flawO z1.1 ?_
          refine j_vret rfl dX13_readAll_57 ?_
          exact hp m1 l1 (f.tr F1) (fun e9 he9 => by rw [HR] at he9; cases he9; exact z1) (fun s9 hs9 => by rw [HR] at hs9; cases hs9)
        · refine j_aload_n dX13_readAll_41 rfl rfl ?_
          refine gR13_157 rfl dX13_readAll_42 hRd ?_
          refine gI13_199 (kM0 hM) dX13_readAll_45 ?_
          skip
          refine j_if_ne (tgt := 57) dX13_readAll_48 (by decide) (fun h48 => ?_) (fun h48 => ?_)
          · refine j_vret rfl dX13_readAll_57 ?_
            exact hp m1 l1 (f.tr F1) (fun e9 he9 => by rw [HR] at he9; cases he9; exact z1) (fun s9 hs9 => by rw [HR] at hs9; cases hs9)
          · refine j_aload_n dX13_readAll_51 rfl rfl ?_
            refine j_bipush (v := nI 6) dX13_readAll_52 (by decide) ?_
            refine cV13_125 (d1 := 1) rfl dX13_readAll_54 (by decide) (Nat.le_of_ble_eq_true rfl) ?_
            refine m_flawO z1.1 ?_
            refine j_vret rfl dX13_readAll_57 ?_
            exact hp m1 l1 (f.tr F1) (fun e9 he9 => by rw [HR] at he9; cases he9; exact z1) (fun s9 hs9 => by rw [HR] at hs9; cases hs9)
      · obtain ⟨zz, rr, nn⟩ := a2 s1 hL
        obtain ⟨hg1, hp1⟩ := li_more hI hg hL
        obtain ⟨hI1, ht1⟩ := li_inv hI hL
        have HZ : rdT B n = (if tS B n s1.1 = 0 then (if s1.2.2 0 3 = 0 ∨ s1.2.2 0 5 = 0 then .inl (6, tA B n s1.1) else .inr s1) else if ¬ tS B n s1.1 = 3 then .inl (1, tA B n s1.1) else rdA B n (k + 1) (tE B n s1.1, s1.2)) := by
          rw [← hr]
          show eb (liA B n s) _ = _
          rw [hL]; rfl
        have hcs : tS B n s1.1 = 3 ∨ tS B n s1.1 = 0 ∨ (tS B n s1.1 ≠ 0 ∧ tS B n s1.1 ≠ 3) := by omega
        refine j_aload_n dX13_readAll_10 rfl rfl ?_
        refine cV13_193 (d1 := 3) rfl dX13_readAll_11 (by decide) (Nat.le_of_ble_eq_true rfl) ?_
        rcases hcs with k3 | k0 | ⟨k0, k3⟩
        · refine m_eatY hX ((hB.fm hM f).fm hM F1) zz k3 (fun m2 l2 f2 z2 => ?_)
          refine j_istore_n (lv2 := [_, _]) dX13_readAll_14 rfl (by decide) rfl rfl ?_
          refine j_goto (tgt := 2) dX13_readAll_15 (by decide) ?_
          have k0 : ¬ tS B n s1.1 = 0 := by omega
          have q1 := tE_lt B k0
          have q2 := tA_ge B n s1.1
          rw [if_neg k0, if_neg (show ¬ ¬ tS B n s1.1 = 3 from fun q => q k3)] at HZ
          exact ih (tE B n s1.1, s1.2) m2 l2 ((f.tr F1).tr (f2.fm M)) z2 (rr.f hM f2) (nn.f hM f2) hI1 hg1 (fun q => by have q : s1.2.2 0 2 = 0 := q; omega) (by show n ≤ tE B n s1.1 + k; omega) HZ.symm
        · refine m_eatN zz (by omega) ?_
          refine j_istore_n (lv2 := [_, _]) dX13_readAll_14 rfl (by decide) rfl rfl ?_
          refine j_goto (tgt := 2) dX13_readAll_15 (by decide) ?_
          refine j_iload_n dX13_readAll_2 rfl rfl ?_
          refine j_if_eq (tgt := 18) dX13_readAll_3 (by decide) (fun h3 => ?_) (fun h3 => absurd (by decide) h3)
          refine j_aload_n dX13_readAll_18 rfl rfl ?_
          refine gI13_79 rfl dX13_readAll_19 ?_
          rw [zz.2.1.2.1, show sM (tS B n s1.1) = 1 by rw [k0]; rfl]
          refine j_iconst (v := nI 1) dX13_readAll_22 (by decide) ?_
          refine j_icmp_eq (tgt := 31) dX13_readAll_23 (by decide) (fun h23 => ?_) (fun h23 => absurd (by decide) h23)
          refine j_aload_n dX13_readAll_31 rfl rfl ?_
          refine gR13_157 rfl dX13_readAll_32 hRd ?_
          refine gI13_196 (kM0 hM) dX13_readAll_35 ?_
          rw [rr.1 3 (by decide)]
          refine j_if_eq (tgt := 51) dX13_readAll_38 (by decide) (fun h38 => ?_) (fun h38 => ?_)
          all_goals rw [show (0 : Int32) = nI 0 from rfl, nI_eq (by have := hg1 0 3; omega) (by decide)] at h38
          · refine j_aload_n dX13_readAll_51 rfl rfl ?_
            refine j_bipush (v := nI 6) dX13_readAll_52 (by decide) ?_
            refine cV13_125 (d1 := 1) rfl dX13_readAll_54 (by decide) (Nat.le_of_ble_eq_true rfl) ?_
            refine m_flawN (k := 6) zz (fun m3 f3 z3 => ?_)
            refine j_vret rfl dX13_readAll_57 ?_
            have HR : rdT B n = .inl (6, tA B n s1.1) := by rw [HZ, if_pos k0, if_pos (by omega)]
            exact hp m3 l1 (f.tr (F1.tr (f3.fm M))) (fun e9 he9 => by rw [HR] at he9; cases he9; exact z3) (fun s9 hs9 => by rw [HR] at hs9; cases hs9)
          · refine j_aload_n dX13_readAll_41 rfl rfl ?_
            refine gR13_157 rfl dX13_readAll_42 hRd ?_
            refine gI13_199 (kM0 hM) dX13_readAll_45 ?_
            rw [rr.1 5 (by decide)]
            refine j_if_ne (tgt := 57) dX13_readAll_48 (by decide) (fun h48 => ?_) (fun h48 => ?_)
            all_goals rw [show (0 : Int32) = nI 0 from rfl, nI_eq (by have := hg1 0 5; omega) (by decide)] at h48
            · refine j_vret rfl dX13_readAll_57 ?_
              have HR : rdT B n = .inr s1 := by rw [HZ, if_pos k0, if_neg (by omega)]
              exact hp m1 l1 (f.tr F1) (fun e9 he9 => by rw [HR] at he9; cases he9) (fun s9 hs9 => by rw [HR] at hs9; cases hs9; exact ⟨zz, rr, nn⟩)
            · refine j_aload_n dX13_readAll_51 rfl rfl ?_
              refine j_bipush (v := nI 6) dX13_readAll_52 (by decide) ?_
              refine cV13_125 (d1 := 1) rfl dX13_readAll_54 (by decide) (Nat.le_of_ble_eq_true rfl) ?_
              refine m_flawN (k := 6) zz (fun m3 f3 z3 => ?_)
              refine j_vret rfl dX13_readAll_57 ?_
              have HR : rdT B n = .inl (6, tA B n s1.1) := by rw [HZ, if_pos k0, if_pos (by omega)]
              exact hp m3 l1 (f.tr (F1.tr (f3.fm M))) (fun e9 he9 => by rw [HR] at he9; cases he9; exact z3) (fun s9 hs9 => by rw [HR] at hs9; cases hs9)
        · refine m_eatN zz k3 ?_
          refine j_istore_n (lv2 := [_, _]) dX13_readAll_14 rfl (by decide) rfl rfl ?_
          refine j_goto (tgt := 2) dX13_readAll_15 (by decide) ?_
          refine j_iload_n dX13_readAll_2 rfl rfl ?_
          refine j_if_eq (tgt := 18) dX13_readAll_3 (by decide) (fun h3 => ?_) (fun h3 => absurd (by decide) h3)
          refine j_aload_n dX13_readAll_18 rfl rfl ?_
          refine gI13_79 rfl dX13_readAll_19 ?_
          rw [zz.2.1.2.1]
          refine j_iconst (v := nI 1) dX13_readAll_22 (by decide) ?_
          refine j_icmp_eq (tgt := 31) dX13_readAll_23 (by decide) (fun h23 => by exfalso; have h6 := sM_le (tS_le B n s1.1); rw [nI_eq (by omega) (by decide)] at h23; exact sM_k (tS_le B n s1.1) k0 (by decide) h23) (fun h23 => ?_)
          refine j_aload_n dX13_readAll_26 rfl rfl ?_
          refine j_iconst (v := nI 1) dX13_readAll_27 (by decide) ?_
          refine cV13_125 (d1 := 1) rfl dX13_readAll_28 (by decide) (Nat.le_of_ble_eq_true rfl) ?_
          refine m_flawN (k := 1) zz (fun m3 f3 z3 => ?_)
          refine j_aload_n dX13_readAll_31 rfl rfl ?_
          refine gR13_157 rfl dX13_readAll_32 hRd ?_
          refine gI13_196 (kM0 hM) dX13_readAll_35 ?_
          skip
          refine j_if_eq (tgt := 51) dX13_readAll_38 (by decide) (fun h38 => ?_) (fun h38 => ?_)
          · refine j_aload_n dX13_readAll_51 rfl rfl ?_
            refine j_bipush (v := nI 6) dX13_readAll_52 (by decide) ?_
            refine cV13_125 (d1 := 1) rfl dX13_readAll_54 (by decide) (Nat.le_of_ble_eq_true rfl) ?_
            refine m_flawO z3.1 ?_
            refine j_vret rfl dX13_readAll_57 ?_
            have HR : rdT B n = .inl (1, tA B n s1.1) := by rw [HZ, if_neg k0, if_pos k3]
            exact hp m3 l1 (f.tr (F1.tr (f3.fm M))) (fun e9 he9 => by rw [HR] at he9; cases he9; exact z3) (fun s9 hs9 => by rw [HR] at hs9; cases hs9)
          · refine j_aload_n dX13_readAll_41 rfl rfl ?_
            refine gR13_157 rfl dX13_readAll_42 hRd ?_
            refine gI13_199 (kM0 hM) dX13_readAll_45 ?_
            skip
            refine j_if_ne (tgt := 57) dX13_readAll_48 (by decide) (fun h48 => ?_) (fun h48 => ?_)
            · refine j_vret rfl dX13_readAll_57 ?_
              have HR : rdT B n = .inl (1, tA B n s1.1) := by rw [HZ, if_neg k0, if_pos k3]
              exact hp m3 l1 (f.tr (F1.tr (f3.fm M))) (fun e9 he9 => by rw [HR] at he9; cases he9; exact z3) (fun s9 hs9 => by rw [HR] at hs9; cases hs9)
            · refine j_aload_n dX13_readAll_51 rfl rfl ?_
              refine j_bipush (v := nI 6) dX13_readAll_52 (by decide) ?_
              refine cV13_125 (d1 := 1) rfl dX13_readAll_54 (by decide) (Nat.le_of_ble_eq_true rfl) ?_
              refine m_flawO z3.1 ?_
              refine j_vret rfl dX13_readAll_57 ?_
              have HR : rdT B n = .inl (1, tA B n s1.1) := by rw [HZ, if_neg k0, if_pos k3]
              exact hp m3 l1 (f.tr (F1.tr (f3.fm M))) (fun e9 he9 => by rw [HR] at he9; cases he9; exact z3) (fun s9 hs9 => by rw [HR] at hs9; cases hs9)
  have hg0 : GB (0, n00, t00).2.2 := fun _ _ => Nat.zero_le _
  exact key n (0, n00, t00) mi ml ⟨fun _ _ _ => rfl, fun _ _ _ => rfl, fun _ _ => rfl⟩ hz hR hN WI00 hg0 (fun _ => ⟨rfl, rfl, rfl, rfl, rfl, rfl⟩) (Nat.le_add_left _ _) (rd_fuel n (0, n00, t00) WI00 hg0 (Nat.le_add_left _ _)).symm
end M13n
