/-! the class: Rows -/
section C7
variable {G : GG} {post : PT} {mi : MI} {ml : ML} {mr : MR} {dom : List Nat} {T : Nat} {t : TW}
/-- whether a print can be a person's -/
def sut (t : TW) (p k : Nat) : Bool := decide (t 4 p ≠ 2) && (decide (4 * t 7 (5 * p + 3) + t 7 (5 * p + 4) = t 15 k) && decide (t 5 p ≠ t 14 k))
theorem c_suits {p k : Nat} (hX : XR mr) (hT : TT T) (hW : WT t) (hR : RX mi T t) (hp1 : p < t 0 5) (hk1 : k < t 0 8) (hp : post (some (.int (nI (bN (sut t p k))))) mi ml mr dom) : CT G 2 0 0 yX7_suits cX7_suits 2 (some .boolean) [.ref (T + 10 + p), .ref (T + 50 + k)] mi ml mr dom post := by
  have w := hW.1
  have P1 := pv hX hT hW hR hp1
  obtain ⟨r1, r2, r3, r4⟩ := hR.pe hp1
  obtain ⟨q1, q2, q3⟩ := hR.pr hk1
  obtain ⟨w1, w2, w3, w4, w5⟩ := hW.pe hp1
  obtain ⟨u1, u2, u3⟩ := hW.pr hk1
  have m3 := w5 3 (by omega)
  have m4 := w5 4 (by omega)
  refine enter 0 (by decide) rfl rfl (fun X => ?_)
  refine j_aload_n dX7_suits_0 rfl rfl ?_
  refine gI7_77 P1.1 dX7_suits_1 ?_
  refine j_iconst (v := 2) dX7_suits_4 (by decide) ?_
  refine j_icmp_eq (tgt := 34) dX7_suits_5 (by decide) (fun h5 => ?_) (fun h5 => ?_)
  · refine j_iconst (v := 0) dX7_suits_34 (by decide) ?_
    refine j_zret rfl (by decide) dX7_suits_35 ?_
    rw [r1, show (2 : Int32) = nI 2 from rfl, nI_eq (by omega) (by omega)] at h5
    first
      | (rw [show sut t p k = false by unfold sut; rw [decide_eq_false (p := t 4 p ≠ 2) (fun q => q h5), Bool.false_and]] at hp; exact hp)
      | (rw [q2] at h16
         have h16b : (4 * t 7 (5 * p + 3) + t 7 (5 * p + 4) = t 15 k) ↔ (nI (4 * mks t p 3 + mks t p 4) = nI (t 15 k)) := (nI_eq (a := 4 * t 7 (5 * p + 3) + t 7 (5 * p + 4)) (by omega) (by omega)).symm
         rw [← h16b] at h16
         first
           | (rw [show sut t p k = false by unfold sut; rw [decide_eq_false h16, Bool.false_and, Bool.and_false]] at hp; exact hp)
           | (rw [r2, q1, nI_eq (by omega) (by omega)] at h27
              first
                | (rw [show sut t p k = false by unfold sut; rw [decide_eq_false (p := t 5 p ≠ t 14 k) (fun q => q h27), Bool.and_false, Bool.and_false]] at hp; exact hp)
                | (rw [show sut t p k = true by unfold sut; rw [decide_eq_true h5, decide_eq_true h16, decide_eq_true h27]; rfl] at hp; exact hp)))
  · refine j_aload_n dX7_suits_8 rfl rfl ?_
    refine cV7_82 (d1 := 1) P1.1 dX7_suits_9 (by decide) (Nat.le_of_ble_eq_true rfl) ?_
    refine c_feet (m := mks t p) P1.1 P1.2.1 P1.2.2.1 P1.2.2.2.1 r4 ?_
    refine j_aload_n dX7_suits_12 rfl rfl ?_
    refine gI7_86 (kK hT (show k < 5 by omega)) dX7_suits_13 ?_
    refine j_icmp_ne (tgt := 34) dX7_suits_16 (by decide) (fun h16 => ?_) (fun h16 => ?_)
    · refine j_iconst (v := 0) dX7_suits_34 (by decide) ?_
      refine j_zret rfl (by decide) dX7_suits_35 ?_
      rw [r1, show (2 : Int32) = nI 2 from rfl, nI_eq (by omega) (by omega)] at h5
      first
        | (rw [show sut t p k = false by unfold sut; rw [decide_eq_false (p := t 4 p ≠ 2) (fun q => q h5), Bool.false_and]] at hp; exact hp)
        | (rw [q2] at h16
           have h16b : (4 * t 7 (5 * p + 3) + t 7 (5 * p + 4) = t 15 k) ↔ (nI (4 * mks t p 3 + mks t p 4) = nI (t 15 k)) := (nI_eq (a := 4 * t 7 (5 * p + 3) + t 7 (5 * p + 4)) (by omega) (by omega)).symm
           rw [← h16b] at h16
           first
             | (rw [show sut t p k = false by unfold sut; rw [decide_eq_false h16, Bool.false_and, Bool.and_false]] at hp; exact hp)
             | (rw [r2, q1, nI_eq (by omega) (by omega)] at h27
                first
                  | (rw [show sut t p k = false by unfold sut; rw [decide_eq_false (p := t 5 p ≠ t 14 k) (fun q => q h27), Bool.and_false, Bool.and_false]] at hp; exact hp)
                  | (rw [show sut t p k = true by unfold sut; rw [decide_eq_true h5, decide_eq_true h16, decide_eq_true h27]; rfl] at hp; exact hp)))
    · refine j_aload_n dX7_suits_19 rfl rfl ?_
      refine gI7_88 P1.1 dX7_suits_20 ?_
      refine j_aload_n dX7_suits_23 rfl rfl ?_
      refine gI7_91 (kK hT (show k < 5 by omega)) dX7_suits_24 ?_
      refine j_icmp_eq (tgt := 34) dX7_suits_27 (by decide) (fun h27 => ?_) (fun h27 => ?_)
      · refine j_iconst (v := 0) dX7_suits_34 (by decide) ?_
        refine j_zret rfl (by decide) dX7_suits_35 ?_
        rw [r1, show (2 : Int32) = nI 2 from rfl, nI_eq (by omega) (by omega)] at h5
        first
          | (rw [show sut t p k = false by unfold sut; rw [decide_eq_false (p := t 4 p ≠ 2) (fun q => q h5), Bool.false_and]] at hp; exact hp)
          | (rw [q2] at h16
             have h16b : (4 * t 7 (5 * p + 3) + t 7 (5 * p + 4) = t 15 k) ↔ (nI (4 * mks t p 3 + mks t p 4) = nI (t 15 k)) := (nI_eq (a := 4 * t 7 (5 * p + 3) + t 7 (5 * p + 4)) (by omega) (by omega)).symm
             rw [← h16b] at h16
             first
               | (rw [show sut t p k = false by unfold sut; rw [decide_eq_false h16, Bool.false_and, Bool.and_false]] at hp; exact hp)
               | (rw [r2, q1, nI_eq (by omega) (by omega)] at h27
                  first
                    | (rw [show sut t p k = false by unfold sut; rw [decide_eq_false (p := t 5 p ≠ t 14 k) (fun q => q h27), Bool.and_false, Bool.and_false]] at hp; exact hp)
                    | (rw [show sut t p k = true by unfold sut; rw [decide_eq_true h5, decide_eq_true h16, decide_eq_true h27]; rfl] at hp; exact hp)))
      · refine j_iconst (v := 1) dX7_suits_30 (by decide) ?_
        refine j_goto (tgt := 35) dX7_suits_31 (by decide) ?_
        refine j_zret rfl (by decide) dX7_suits_35 ?_
        rw [r1, show (2 : Int32) = nI 2 from rfl, nI_eq (by omega) (by omega)] at h5
        first
          | (rw [show sut t p k = false by unfold sut; rw [decide_eq_false (p := t 4 p ≠ 2) (fun q => q h5), Bool.false_and]] at hp; exact hp)
          | (rw [q2] at h16
             have h16b : (4 * t 7 (5 * p + 3) + t 7 (5 * p + 4) = t 15 k) ↔ (nI (4 * mks t p 3 + mks t p 4) = nI (t 15 k)) := (nI_eq (a := 4 * t 7 (5 * p + 3) + t 7 (5 * p + 4)) (by omega) (by omega)).symm
             rw [← h16b] at h16
             first
               | (rw [show sut t p k = false by unfold sut; rw [decide_eq_false h16, Bool.false_and, Bool.and_false]] at hp; exact hp)
               | (rw [r2, q1, nI_eq (by omega) (by omega)] at h27
                  first
                    | (rw [show sut t p k = false by unfold sut; rw [decide_eq_false (p := t 5 p ≠ t 14 k) (fun q => q h27), Bool.and_false, Bool.and_false]] at hp; exact hp)
                    | (rw [show sut t p k = true by unfold sut; rw [decide_eq_true h5, decide_eq_true h16, decide_eq_true h27]; rfl] at hp; exact hp)))
def fst (t : TW) (k : Nat) : Bool := (List.range k).all fun j => decide (t 16 j ≠ t 16 k)
theorem c_isFirst {k : Nat} (hX : XR mr) (hT : TT T) (hW : WT t) (hR : RX mi T t) (hk1 : k < t 0 8) (hp : post (some (.int (nI (bN (fst t k))))) mi ml mr dom) : CT G 1 0 0 yX7_isFirst cX7_isFirst 3 (some .boolean) [.ref T, .int (nI k)] mi ml mr dom post := by
  have w := hW.1
  refine enter 1 (by decide) rfl rfl (fun X => ?_)
  refine j_iconst (v := 0) dX7_isFirst_0 (by decide) ?_
  refine j_istore_n (lv2 := [_, _, _]) dX7_isFirst_1 rfl (by decide) rfl rfl ?_
  skip
  refine lp (n := k) (Q := fun j => ∀ i, i < j → ¬ t 16 i = t 16 k) (H := fun j => J cX7_isFirst 3 yX7_isFirst.cls yX7_isFirst.name (some .boolean) 1 G X post 0 0 mi ml mr dom 2 [some (.ref T), some (.int (nI k)), some (.int (nI j))] []) (fun hq => ?_) (fun j hj hq ih => ?_) (fun i hi => absurd hi (by omega))
  · skip
    refine j_iload_n dX7_isFirst_2 rfl rfl ?_
    refine j_iload_n dX7_isFirst_3 rfl rfl ?_
    refine j_icmp_ge (tgt := 36) dX7_isFirst_4 (by decide) (fun _ => ?_) (fun h4 => absurd (nI_le (Nat.le_refl _) (by omega)) h4)
    refine j_iconst (v := 1) dX7_isFirst_36 (by decide) ?_
    refine j_zret rfl (by decide) dX7_isFirst_37 ?_
    rw [show fst t k = true by unfold fst; rw [List.all_eq_true]; intro i hi; have := hq i (List.mem_range.mp hi); simpa using this] at hp
    exact hp
  · skip
    refine j_iload_n dX7_isFirst_2 rfl rfl ?_
    refine j_iload_n dX7_isFirst_3 rfl rfl ?_
    refine j_icmp_ge (tgt := 36) dX7_isFirst_4 (by decide) (fun h4 => absurd h4 (nI_ge hj (by omega))) (fun _ => ?_)
    refine j_aload_n dX7_isFirst_7 rfl rfl ?_
    refine gR7_38 (kT0 hT) dX7_isFirst_8 (xT_tracks hX hT) ?_
    refine j_iload_n dX7_isFirst_11 rfl rfl ?_
    refine j_aald (C := RX5) (kT8 hT) (by decide) (fun _ => rfl) (inT (lT8 hT) (show j < 5 by omega) (by omega)) (mr_nI (by omega) (xT_k hX hT (show j < 5 by omega))) dX7_isFirst_12 (by decide) ?_
    refine gI7_42 (kK hT (show j < 5 by omega)) dX7_isFirst_13 ?_
    refine j_aload_n dX7_isFirst_16 rfl rfl ?_
    refine gR7_38 (kT0 hT) dX7_isFirst_17 (xT_tracks hX hT) ?_
    refine j_iload_n dX7_isFirst_20 rfl rfl ?_
    refine j_aald (C := RX5) (kT8 hT) (by decide) (fun _ => rfl) (inT (lT8 hT) (show k < 5 by omega) (by omega)) (mr_nI (by omega) (xT_k hX hT (show k < 5 by omega))) dX7_isFirst_21 (by decide) ?_
    refine gI7_42 (kK hT (show k < 5 by omega)) dX7_isFirst_22 ?_
    refine j_icmp_ne (tgt := 30) dX7_isFirst_25 (by decide) (fun h25 => ?_) (fun h25 => ?_)
    · refine j_iinc1 (lv2 := [_, _, _]) dX7_isFirst_30 rfl (by decide) rfl rfl ?_
      refine j_goto (tgt := 2) dX7_isFirst_33 (by decide) ?_
      rw [nI_1]
      rw [(hR.pr (show j < t 0 8 by omega)).2.2, (hR.pr hk1).2.2, nI_eq (by have := (hW.pr (show j < t 0 8 by omega)).2.2; omega) (by have := (hW.pr hk1).2.2; omega)] at h25
      refine ih (fun i hi => ?_)
      by_cases hij : i = j
      · subst hij; exact h25
      · exact hq i (by omega)
    · refine j_iconst (v := 0) dX7_isFirst_28 (by decide) ?_
      refine j_zret rfl (by decide) dX7_isFirst_29 ?_
      rw [(hR.pr (show j < t 0 8 by omega)).2.2, (hR.pr hk1).2.2, nI_eq (by have := (hW.pr (show j < t 0 8 by omega)).2.2; omega) (by have := (hW.pr hk1).2.2; omega)] at h25
      rw [show fst t k = false by unfold fst; rw [List.all_eq_false]; exact ⟨j, List.mem_range.mpr hj, by simp [h25]⟩] at hp
      exact hp
def pro (f : Nat → Nat) : Nat → Nat
  | 0 => 1
  | n + 1 => pro f n * f n
theorem c_rowsOfOthers {nt : Nat} {nr : Nat → Nat} (hX : XR mr) (hT : TT T) (hW : WT t) (hR : RX mi T t) (hnr : ∀ k, k < t 0 8 → mi 19 k = nI (nr k)) (hnt : nt < 2 ^ 31) (hp : post (some (.int (nI (pro (fun k => if t 16 k = nt then 1 else nr k) (t 0 8))))) mi ml mr dom) : CT G 1 0 0 yX7_rowsOfOthers cX7_rowsOfOthers 5 (some .int) [.ref 17, .ref T, .int (nI nt)] mi ml mr dom post := by
  have w := hW.1
  refine enter 2 (by decide) rfl rfl (fun X => ?_)
  refine j_iconst (v := 1) dX7_rowsOfOthers_0 (by decide) ?_
  refine j_istore_n (lv2 := [_, _, _, _, _]) dX7_rowsOfOthers_1 rfl (by decide) rfl rfl ?_
  refine j_iconst (v := 0) dX7_rowsOfOthers_2 (by decide) ?_
  refine j_istore (lv2 := [_, _, _, _, _]) dX7_rowsOfOthers_3 (by decide) rfl rfl ?_
  skip
  refine lq (n := t 0 8) (H := fun k => J cX7_rowsOfOthers 5 yX7_rowsOfOthers.cls yX7_rowsOfOthers.name (some .int) 1 G X post 0 0 mi ml mr dom 5 [some (.ref 17), some (.ref T), some (.int (nI nt)), some (.int (nI (pro (fun k => if t 16 k = nt then 1 else nr k) k))), some (.int (nI k))] []) ?_ (fun k hk ih => ?_)
  · skip
    refine j_iload dX7_rowsOfOthers_5 rfl ?_
    refine j_aload_n dX7_rowsOfOthers_7 rfl rfl ?_
    refine gI7_31 (kT0 hT) dX7_rowsOfOthers_8 ?_
    refine j_icmp_ge (tgt := 44) dX7_rowsOfOthers_11 (by decide) (fun _ => ?_) (fun h11 => absurd (by rw [hR.prints]; exact nI_le (Nat.le_refl _) (by omega)) h11)
    refine j_iload_n dX7_rowsOfOthers_44 rfl rfl ?_
    refine j_iret rfl dX7_rowsOfOthers_45 ?_
    exact hp
  · skip
    refine j_iload dX7_rowsOfOthers_5 rfl ?_
    refine j_aload_n dX7_rowsOfOthers_7 rfl rfl ?_
    refine gI7_31 (kT0 hT) dX7_rowsOfOthers_8 ?_
    refine j_icmp_ge (tgt := 44) dX7_rowsOfOthers_11 (by decide) (fun h11 => absurd (by rw [hR.prints] at h11; exact h11) (nI_ge hk (by omega))) (fun _ => ?_)
    refine j_aload_n dX7_rowsOfOthers_14 rfl rfl ?_
    refine gR7_38 (kT0 hT) dX7_rowsOfOthers_15 (xT_tracks hX hT) ?_
    refine j_iload dX7_rowsOfOthers_18 rfl ?_
    refine j_aald (C := RX5) (kT8 hT) (by decide) (fun _ => rfl) (inT (lT8 hT) (show k < 5 by omega) (by omega)) (mr_nI (by omega) (xT_k hX hT (show k < 5 by omega))) dX7_rowsOfOthers_20 (by decide) ?_
    refine gI7_42 (kK hT (show k < 5 by omega)) dX7_rowsOfOthers_21 ?_
    refine j_iload_n dX7_rowsOfOthers_24 rfl rfl ?_
    refine j_icmp_eq (tgt := 38) dX7_rowsOfOthers_25 (by decide) (fun h25 => ?_) (fun h25 => ?_)
    · refine j_iinc1 (lv2 := [_, _, _, _, _]) dX7_rowsOfOthers_38 rfl (by decide) rfl rfl ?_
      refine j_goto (tgt := 5) dX7_rowsOfOthers_41 (by decide) ?_
      rw [nI_1]
      rw [(hR.pr hk).2.2, nI_eq (by have := (hW.pr hk).2.2; omega) hnt] at h25
      first
        | (rw [pro, if_pos h25, Nat.mul_one] at ih; exact ih)
        | (rw [pro, if_neg h25] at ih; rw [pk_mul]; exact ih)
    · refine j_iload_n dX7_rowsOfOthers_28 rfl rfl ?_
      refine j_aload_n dX7_rowsOfOthers_29 rfl rfl ?_
      refine gR7_15 rfl dX7_rowsOfOthers_30 (x_nightRows hX) ?_
      refine j_iload dX7_rowsOfOthers_33 rfl ?_
      refine j_iald rfl (inT (a := 19) (N := 5) rfl (show k < 5 by omega) (by omega)) dX7_rowsOfOthers_35 ?_
      rw [nI_clamp (by omega), hnr k hk]
      refine j_imul dX7_rowsOfOthers_36 ?_
      refine j_istore_n (lv2 := [_, _, _, _, _]) dX7_rowsOfOthers_37 rfl (by decide) rfl rfl ?_
      refine j_iinc1 (lv2 := [_, _, _, _, _]) dX7_rowsOfOthers_38 rfl (by decide) rfl rfl ?_
      refine j_goto (tgt := 5) dX7_rowsOfOthers_41 (by decide) ?_
      rw [nI_1]
      rw [(hR.pr hk).2.2, nI_eq (by have := (hW.pr hk).2.2; omega) hnt] at h25
      first
        | (rw [pro, if_pos h25, Nat.mul_one] at ih; exact ih)
        | (rw [pro, if_neg h25] at ih; rw [pk_mul]; exact ih)
theorem c_spread {k f n : Nat} {W : Nat → Nat} (hX : XR mr) (hpe : mi 17 2 = nI n) (hn : n ≤ 6) (hk : k < 5) (hW9 : ∀ i, i < 30 → mi 18 i = nI (W i)) (hp : ∀ m, off1 18 m mi → (∀ i, i < 30 → m 18 i = nI (if 6 * k ≤ i ∧ i < 6 * k + n then W i * f else W i)) → post none m ml mr dom) : CT G 1 0 0 yX7_spread cX7_spread 4 none [.ref 17, .int (nI k), .int (nI f)] mi ml mr dom post := by
  refine enter 1 (by decide) rfl rfl (fun X => ?_)
  refine j_iconst (v := 0) dX7_spread_0 (by decide) ?_
  refine j_istore_n (lv2 := [_, _, _, _]) dX7_spread_1 rfl (by decide) rfl rfl ?_
  skip
  refine lq (n := n) (H := fun p => ∀ m : MI, off1 18 m mi → (∀ i, i < 30 → m 18 i = nI (if 6 * k ≤ i ∧ i < 6 * k + p then W i * f else W i)) → J cX7_spread 4 yX7_spread.cls yX7_spread.name none 1 G X post 0 0 m ml mr dom 2 [some (.ref 17), some (.int (nI k)), some (.int (nI f)), some (.int (nI p))] []) (fun m hm hi => ?_) (fun p hp9 ih m hm hi => ?_) mi (fun _ _ => rfl) (fun i hi => ?_)
  · skip
    refine j_iload_n dX7_spread_2 rfl rfl ?_
    refine j_aload_n dX7_spread_3 rfl rfl ?_
    refine gI7_18 rfl dX7_spread_4 ?_
    refine j_icmp_ge (tgt := 31) dX7_spread_7 (by decide) (fun _ => ?_) (fun h7 => absurd (by rw [hm 17 (by decide), hpe]; exact nI_le (Nat.le_refl _) (by omega)) h7)
    refine j_vret rfl dX7_spread_31 ?_
    exact hp m hm hi
  · skip
    refine j_iload_n dX7_spread_2 rfl rfl ?_
    refine j_aload_n dX7_spread_3 rfl rfl ?_
    refine gI7_18 rfl dX7_spread_4 ?_
    refine j_icmp_ge (tgt := 31) dX7_spread_7 (by decide) (fun h7 => absurd (by rw [hm 17 (by decide), hpe] at h7; exact h7) (nI_ge hp9 (by omega))) (fun _ => ?_)
    refine j_aload_n dX7_spread_10 rfl rfl ?_
    refine gR7_9 rfl dX7_spread_11 (x_ways hX) ?_
    refine j_iload_n dX7_spread_14 rfl rfl ?_
    refine j_bipush (v := 6) dX7_spread_15 (by decide) ?_
    refine j_imul dX7_spread_17 ?_
    refine j_iload_n dX7_spread_18 rfl rfl ?_
    refine j_iadd dX7_spread_19 ?_
    rw [ix6]
    refine j_dup2 dX7_spread_20 rfl rfl ?_
    refine j_iald rfl (inT (a := 18) (N := 30) rfl (show 6 * k + p < 30 by omega) (by omega)) dX7_spread_21 ?_
    rw [nI_clamp (by omega), hi (6 * k + p) (by omega), if_neg (by omega)]
    refine j_iload_n dX7_spread_22 rfl rfl ?_
    refine j_imul dX7_spread_23 ?_
    rw [pk_mul]
    refine j_iast rfl (inT (a := 18) (N := 30) rfl (show 6 * k + p < 30 by omega) (by omega)) dX7_spread_24 ?_
    rw [nI_clamp (by omega)]
    refine j_iinc1 (lv2 := [_, _, _, _]) dX7_spread_25 rfl (by decide) rfl rfl ?_
    refine j_goto (tgt := 2) dX7_spread_28 (by decide) ?_
    rw [nI_1]
    refine ih _ hm.up (fun i hi9 => ?_)
    by_cases hik : i = 6 * k + p
    · subst hik; rw [up_at, if_pos ⟨by omega, by omega⟩]
    · rw [up_ne _ _ hik, hi i hi9]
      by_cases hc : 6 * k ≤ i ∧ i < 6 * k + p
      · rw [if_pos hc, if_pos ⟨hc.1, by omega⟩]
      · rw [if_neg hc, if_neg (by omega)]
  · rw [if_neg (by omega)]; exact hW9 i hi
theorem c_peopleOf {k n : Nat} {W : Nat → Nat} (hX : XR mr) (hpe : mi 17 2 = nI n) (hn : n ≤ 6) (hk : k < 5) (hW9 : ∀ i, i < 30 → mi 18 i = nI (W i)) (hWb : ∀ i, W i < 2 ^ 31) (hp : post (some (.int (nI (bst (fun p => decide (0 < W (6 * k + p))) n)))) mi ml mr dom) : CT G 1 0 0 yX7_peopleOf cX7_peopleOf 4 (some .int) [.ref 17, .int (nI k)] mi ml mr dom post := by
  refine enter 2 (by decide) rfl rfl (fun X => ?_)
  refine j_iconst (v := 0) dX7_peopleOf_0 (by decide) ?_
  refine j_istore_n (lv2 := [_, _, _, _]) dX7_peopleOf_1 rfl (by decide) rfl rfl ?_
  refine j_iconst (v := 0) dX7_peopleOf_2 (by decide) ?_
  refine j_istore_n (lv2 := [_, _, _, _]) dX7_peopleOf_3 rfl (by decide) rfl rfl ?_
  skip
  refine lq (n := n) (H := fun p => J cX7_peopleOf 4 yX7_peopleOf.cls yX7_peopleOf.name (some .int) 1 G X post 0 0 mi ml mr dom 4 [some (.ref 17), some (.int (nI k)), some (.int (nI (bst (fun p => decide (0 < W (6 * k + p))) p))), some (.int (nI p))] []) ?_ (fun p hp9 ih => ?_)
  · skip
    refine j_iload_n dX7_peopleOf_4 rfl rfl ?_
    refine j_aload_n dX7_peopleOf_5 rfl rfl ?_
    refine gI7_18 rfl dX7_peopleOf_6 ?_
    refine j_icmp_ge (tgt := 38) dX7_peopleOf_9 (by decide) (fun _ => ?_) (fun h9 => absurd (by rw [hpe]; exact nI_le (Nat.le_refl _) (by omega)) h9)
    refine j_iload_n dX7_peopleOf_38 rfl rfl ?_
    refine j_iret rfl dX7_peopleOf_39 ?_
    exact hp
  · skip
    refine j_iload_n dX7_peopleOf_4 rfl rfl ?_
    refine j_aload_n dX7_peopleOf_5 rfl rfl ?_
    refine gI7_18 rfl dX7_peopleOf_6 ?_
    refine j_icmp_ge (tgt := 38) dX7_peopleOf_9 (by decide) (fun h9 => absurd (by rw [hpe] at h9; exact h9) (nI_ge hp9 (by omega))) (fun _ => ?_)
    refine j_aload_n dX7_peopleOf_12 rfl rfl ?_
    refine gR7_9 rfl dX7_peopleOf_13 (x_ways hX) ?_
    refine j_iload_n dX7_peopleOf_16 rfl rfl ?_
    refine j_bipush (v := 6) dX7_peopleOf_17 (by decide) ?_
    refine j_imul dX7_peopleOf_19 ?_
    refine j_iload_n dX7_peopleOf_20 rfl rfl ?_
    refine j_iadd dX7_peopleOf_21 ?_
    rw [ix6]
    refine j_iald rfl (inT (a := 18) (N := 30) rfl (show 6 * k + p < 30 by omega) (by omega)) dX7_peopleOf_22 ?_
    rw [nI_clamp (by omega), hW9 (6 * k + p) (by omega)]
    refine j_if_le (tgt := 32) dX7_peopleOf_23 (by decide) (fun h23 => ?_) (fun h23 => ?_)
    · refine j_iinc1 (lv2 := [_, _, _, _]) dX7_peopleOf_32 rfl (by decide) rfl rfl ?_
      refine j_goto (tgt := 4) dX7_peopleOf_35 (by decide) ?_
      rw [nI_1]
      rw [show (0 : Int32) = nI 0 from rfl, nI_leI (hWb _) (by omega)] at h23
      first
        | (rw [bst, if_neg (by simp; omega)] at ih; exact ih)
        | (rw [bit_set _ (bst_256 _ (by omega)) _ (by omega)]; rw [bst, if_pos (by simp; omega)] at ih; exact ih)
    · refine j_iload_n dX7_peopleOf_26 rfl rfl ?_
      refine j_iconst (v := 1) dX7_peopleOf_27 (by decide) ?_
      refine j_iload_n dX7_peopleOf_28 rfl rfl ?_
      refine j_ishl dX7_peopleOf_29 ?_
      refine j_ior dX7_peopleOf_30 ?_
      refine j_istore_n (lv2 := [_, _, _, _]) dX7_peopleOf_31 rfl (by decide) rfl rfl ?_
      refine j_iinc1 (lv2 := [_, _, _, _]) dX7_peopleOf_32 rfl (by decide) rfl rfl ?_
      refine j_goto (tgt := 4) dX7_peopleOf_35 (by decide) ?_
      rw [nI_1]
      rw [show (0 : Int32) = nI 0 from rfl, nI_leI (hWb _) (by omega)] at h23
      first
        | (rw [bst, if_neg (by simp; omega)] at ih; exact ih)
        | (rw [bit_set _ (bst_256 _ (by omega)) _ (by omega)]; rw [bst, if_pos (by simp; omega)] at ih; exact ih)
theorem c_onlyOneOf {k n : Nat} {W : Nat → Nat} (hX : XR mr) (hpe : mi 17 2 = nI n) (hn : n ≤ 6) (hk : k < 5) (hW9 : ∀ i, i < 30 → mi 18 i = nI (W i)) (hWb : ∀ i, W i < 2 ^ 31) (hp1 : ∀ p, p < n → bst (fun p => decide (0 < W (6 * k + p))) n = 2 ^ p → post (some (.int (nI p))) mi ml mr dom) (hp2 : (∀ p, p < n → ¬ bst (fun p => decide (0 < W (6 * k + p))) n = 2 ^ p) → post (some (.int (-2))) mi ml mr dom) : CT G 2 0 0 yX7_onlyOneOf cX7_onlyOneOf 4 (some .int) [.ref 17, .int (nI k)] mi ml mr dom post := by
  refine enter 2 (by decide) rfl rfl (fun X => ?_)
  refine j_aload_n dX7_onlyOneOf_0 rfl rfl ?_
  refine j_iload_n dX7_onlyOneOf_1 rfl rfl ?_
  refine cV7_59 (d1 := 1) rfl dX7_onlyOneOf_2 (by decide) (Nat.le_of_ble_eq_true rfl) ?_
  refine c_peopleOf hX hpe hn hk hW9 hWb ?_
  refine j_istore_n (lv2 := [_, _, _, _]) dX7_onlyOneOf_5 rfl (by decide) rfl rfl ?_
  refine j_iconst (v := 0) dX7_onlyOneOf_6 (by decide) ?_
  refine j_istore_n (lv2 := [_, _, _, _]) dX7_onlyOneOf_7 rfl (by decide) rfl rfl ?_
  skip
  have hB := bst_256 (fun p => decide (0 < W (6 * k + p))) (show n ≤ 8 by omega)
  generalize bst (fun p => decide (0 < W (6 * k + p))) n = B at hp1 hp2 hB ⊢
  refine lp (n := n) (Q := fun p => ∀ q, q < p → ¬ B = 2 ^ q) (H := fun p => J cX7_onlyOneOf 4 yX7_onlyOneOf.cls yX7_onlyOneOf.name (some .int) 2 G X post 0 0 mi ml mr dom 8 [some (.ref 17), some (.int (nI k)), some (.int (nI B)), some (.int (nI p))] []) (fun hQ => ?_) (fun p hp9 hQ ih => ?_) (fun q hq => absurd hq (by omega))
  · skip
    refine j_iload_n dX7_onlyOneOf_8 rfl rfl ?_
    refine j_aload_n dX7_onlyOneOf_9 rfl rfl ?_
    refine gI7_18 rfl dX7_onlyOneOf_10 ?_
    refine j_icmp_ge (tgt := 31) dX7_onlyOneOf_13 (by decide) (fun _ => ?_) (fun h13 => absurd (by rw [hpe]; exact nI_le (Nat.le_refl _) (by omega)) h13)
    refine j_bipush (v := -2) dX7_onlyOneOf_31 (by decide) ?_
    refine j_iret rfl dX7_onlyOneOf_33 ?_
    exact hp2 hQ
  · skip
    refine j_iload_n dX7_onlyOneOf_8 rfl rfl ?_
    refine j_aload_n dX7_onlyOneOf_9 rfl rfl ?_
    refine gI7_18 rfl dX7_onlyOneOf_10 ?_
    refine j_icmp_ge (tgt := 31) dX7_onlyOneOf_13 (by decide) (fun h13 => absurd (by rw [hpe] at h13; exact h13) (nI_ge hp9 (by omega))) (fun _ => ?_)
    refine j_iload_n dX7_onlyOneOf_16 rfl rfl ?_
    refine j_iconst (v := 1) dX7_onlyOneOf_17 (by decide) ?_
    refine j_iload_n dX7_onlyOneOf_18 rfl rfl ?_
    refine j_ishl dX7_onlyOneOf_19 ?_
    rw [bit_one p (by omega)]
    refine j_icmp_ne (tgt := 25) dX7_onlyOneOf_20 (by decide) (fun h20 => ?_) (fun h20 => ?_)
    · refine j_iinc1 (lv2 := [_, _, _, _]) dX7_onlyOneOf_25 rfl (by decide) rfl rfl ?_
      refine j_goto (tgt := 8) dX7_onlyOneOf_28 (by decide) ?_
      rw [nI_1]
      rw [nI_eq (by omega) (by have := Nat.pow_lt_pow_right (a := 2) (by omega) (show p < 8 by omega); omega)] at h20
      refine ih (fun q hq => ?_)
      by_cases hqp : q = p
      · subst hqp; exact h20
      · exact hQ q (by omega)
    · refine j_iload_n dX7_onlyOneOf_23 rfl rfl ?_
      refine j_iret rfl dX7_onlyOneOf_24 ?_
      rw [nI_eq (by omega) (by have := Nat.pow_lt_pow_right (a := 2) (by omega) (show p < 8 by omega); omega)] at h20
      exact hp1 p hp9 h20
def mxf (f : Nat → Nat) : Nat → Nat
  | 0 => 0
  | n + 1 => max (mxf f n) (f n)
theorem mxf_lt {f : Nat → Nat} (h : ∀ i, f i < 2 ^ 31) (n : Nat) : mxf f n < 2 ^ 31 := by
  induction n with
  | zero => exact Nat.two_pow_pos 31
  | succ n ih => have := h n; rw [mxf]; omega
theorem c_mostLeft {k n : Nat} {W : Nat → Nat} (hX : XR mr) (hpe : mi 17 2 = nI n) (hn : n ≤ 6) (hk : k < 5) (hW9 : ∀ i, i < 30 → mi 18 i = nI (W i)) (hWb : ∀ i, W i < 2 ^ 31) (hp : post (some (.int (nI (mxf (fun p => W (6 * k + p)) n)))) mi ml mr dom) : CT G 2 0 0 yX7_mostLeft cX7_mostLeft 4 (some .int) [.ref 17, .int (nI k)] mi ml mr dom post := by
  refine enter 2 (by decide) rfl rfl (fun X => ?_)
  refine j_iconst (v := 0) dX7_mostLeft_0 (by decide) ?_
  refine j_istore_n (lv2 := [_, _, _, _]) dX7_mostLeft_1 rfl (by decide) rfl rfl ?_
  refine j_iconst (v := 0) dX7_mostLeft_2 (by decide) ?_
  refine j_istore_n (lv2 := [_, _, _, _]) dX7_mostLeft_3 rfl (by decide) rfl rfl ?_
  skip
  refine lq (n := n) (H := fun p => J cX7_mostLeft 4 yX7_mostLeft.cls yX7_mostLeft.name (some .int) 2 G X post 0 0 mi ml mr dom 4 [some (.ref 17), some (.int (nI k)), some (.int (nI (mxf (fun p => W (6 * k + p)) p))), some (.int (nI p))] []) ?_ (fun p hp9 ih => ?_)
  · skip
    refine j_iload_n dX7_mostLeft_4 rfl rfl ?_
    refine j_aload_n dX7_mostLeft_5 rfl rfl ?_
    refine gI7_18 rfl dX7_mostLeft_6 ?_
    refine j_icmp_ge (tgt := 34) dX7_mostLeft_9 (by decide) (fun _ => ?_) (fun h9 => absurd (by rw [hpe]; exact nI_le (Nat.le_refl _) (by omega)) h9)
    refine j_iload_n dX7_mostLeft_34 rfl rfl ?_
    refine j_iret rfl dX7_mostLeft_35 ?_
    exact hp
  · skip
    refine j_iload_n dX7_mostLeft_4 rfl rfl ?_
    refine j_aload_n dX7_mostLeft_5 rfl rfl ?_
    refine gI7_18 rfl dX7_mostLeft_6 ?_
    refine j_icmp_ge (tgt := 34) dX7_mostLeft_9 (by decide) (fun h9 => absurd (by rw [hpe] at h9; exact h9) (nI_ge hp9 (by omega))) (fun _ => ?_)
    refine j_iload_n dX7_mostLeft_12 rfl rfl ?_
    refine j_aload_n dX7_mostLeft_13 rfl rfl ?_
    refine gR7_9 rfl dX7_mostLeft_14 (x_ways hX) ?_
    refine j_iload_n dX7_mostLeft_17 rfl rfl ?_
    refine j_bipush (v := 6) dX7_mostLeft_18 (by decide) ?_
    refine j_imul dX7_mostLeft_20 ?_
    refine j_iload_n dX7_mostLeft_21 rfl rfl ?_
    refine j_iadd dX7_mostLeft_22 ?_
    rw [ix6]
    refine j_iald rfl (inT (a := 18) (N := 30) rfl (show 6 * k + p < 30 by omega) (by omega)) dX7_mostLeft_23 ?_
    rw [nI_clamp (by omega), hW9 (6 * k + p) (by omega)]
    refine j_mmax7_63 dX7_mostLeft_24 (by decide) (Nat.le_of_ble_eq_true rfl) ?_
    rw [imax_nI (mxf_lt (fun p => hWb (6 * k + p)) p) (hWb _)]
    refine j_istore_n (lv2 := [_, _, _, _]) dX7_mostLeft_27 rfl (by decide) rfl rfl ?_
    refine j_iinc1 (lv2 := [_, _, _, _]) dX7_mostLeft_28 rfl (by decide) rfl rfl ?_
    refine j_goto (tgt := 4) dX7_mostLeft_31 (by decide) ?_
    rw [nI_1]
    exact ih
end C7
