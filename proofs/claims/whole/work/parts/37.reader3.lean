/-! the class: Reader, what is taken -/
theorem tok_l {B : Nat → Nat} {n p : Nat} (h : tS B n p = 1) : tA B n p < n ∧ (∀ k, tA B n p ≤ k → k < tE B n p → isL (B k) = true ∧ k < n) ∧ tE B n p - tA B n p ≤ 8 ∧ tH B n p = hv 32 (gL B) (tA B n p) (tE B n p - tA B n p) := by
  unfold tS at h
  by_cases h1 : n ≤ tA B n p
  · rw [if_pos h1] at h; exact absurd h (by decide)
  · rw [if_neg h1] at h
    by_cases h2 : isL (B (tA B n p)) = true
    · rw [if_pos h2] at h
      have e : tE B n p = rq (fun k => isL (B k)) n (tA B n p) := by unfold tE; rw [if_neg h1, if_pos h2]
      refine ⟨by omega, fun k hk hk2 => ?_, ?_, by unfold tH; rw [if_neg h1, if_pos h2]⟩
      · rw [e] at hk2; exact rq_in (fun k => isL (B k)) n _ k hk hk2
      · by_cases q : tE B n p - tA B n p ≤ 8
        · exact q
        · rw [if_neg q] at h; exact absurd h (by decide)
    · rw [if_neg h2] at h
      exfalso
      revert h
      split
      · split <;> decide
      · split <;> decide
theorem tok_g {B : Nat → Nat} {n p : Nat} (hb : ∀ k, k < n → B k < 256) (h : tS B n p = 2) : tH B n p = lN (tV B n p) ∧ tV B n p < 1000 := by
  unfold tS at h
  by_cases h1 : n ≤ tA B n p
  · rw [if_pos h1] at h; exact absurd h (by decide)
  · rw [if_neg h1] at h
    by_cases h2 : isL (B (tA B n p)) = true
    · rw [if_pos h2] at h
      exfalso; revert h; split <;> decide
    · rw [if_neg h2] at h
      by_cases h3 : isG (B (tA B n p)) = true
      · rw [if_pos h3] at h
        have e : tE B n p = rq (fun k => isG (B k)) n (tA B n p) := by unfold tE; rw [if_neg h1, if_neg h2, if_pos h3]
        have hl : tE B n p - tA B n p ≤ 3 := by
          by_cases q : tE B n p - tA B n p ≤ 3
          · exact q
          · rw [if_neg q] at h; exact absurd h (by decide)
        have hv := hv_dv B (tA B n p) _ hl (fun j hj => by
          have := rq_in (fun k => isG (B k)) n (tA B n p) (tA B n p + j) (by omega) (by rw [← e]; omega)
          exact ⟨this.1, hb _ this.2⟩)
        refine ⟨?_, ?_⟩
        · rw [show tH B n p = _ by unfold tH; rw [if_neg h1, if_neg h2, if_pos h3]]
          exact hv.1
        · exact Nat.lt_of_lt_of_le hv.2 (Nat.le_trans (Nat.pow_le_pow_right (by decide) hl) (by decide))
      · rw [if_neg h3] at h
        exfalso; revert h; split <;> decide
section C6c
variable {G : GG} {post : PT} {mi : MI} {ml : ML} {mr : MR} {dom : List Nat} {B : Nat → Nat} {n p : Nat}
theorem F2.got (x : Int32) : F2 mi ml (up mi 2 8 x) ml := ⟨fun a ha => up_off _ _ ha, fun _ _ => rfl, up_ne _ _ (by decide), up_ne _ _ (by decide)⟩
theorem RD.le (h : RD mi ml B n p) : tE B n p ≤ n := tE_le B h.1
theorem RB.by (h : RB mi ml mr B n) : ∀ k, k < n → B k < 256 := fun k hk => (h.2.2.2.1 k hk).2
/-- what follows a fault -/
def hEr (post : PT) (mi : MI) (ml : ML) (mr : MR) (dom : List Nat) (e : Nat × Nat) : Prop := ∀ mi' ml', F2 mi ml mi' ml' → mi' 2 0 = nI e.1 → mi' 2 1 = nI e.2 → post (some (.int 0)) mi' ml' mr dom
/-- what follows a token that was taken, with what was got -/
def hOk (post : PT) (mi : MI) (ml : ML) (mr : MR) (dom : List Nat) (B : Nat → Nat) (n q : Nat) (g : Option Nat) : Prop := ∀ mi' ml', F2 mi ml mi' ml' → RD mi' ml' B n q → (∀ x, g = some x → mi' 2 8 = nI x) → post (some (.int 1)) mi' ml' mr dom
theorem c_takesWord (hB : RB mi ml mr B n) (hD : RD mi ml B n p) {i : Nat} (hi : i < 24) (hE : ∀ e, pW B n i p = .inl e → hEr post mi ml mr dom e) (hO : ∀ q, pW B n i p = .inr q → hOk post mi ml mr dom B n q none) : CT G 8 0 0 yX6_takesWord cX6_takesWord 2 (some .boolean) [.ref 2, .ref (500 + i)] mi ml mr dom post := by
  refine enter 0 (by decide) rfl rfl (fun X => ?_)
  refine j_aload_n dX6_takesWord_0 rfl rfl ?_
  refine j_aload_n dX6_takesWord_1 rfl rfl ?_
  refine cV6_310 (d1 := 7) rfl dX6_takesWord_2 (by decide) (Nat.le_of_ble_eq_true rfl) ?_
  refine c_spells hD hi ?_
  refine j_if_ne (tgt := 14) dX6_takesWord_5 (by decide) (fun h5 => ?_) (fun h5 => ?_)
  · refine j_aload_n dX6_takesWord_14 rfl rfl ?_
    refine cV6_87 (d1 := 3) rfl dX6_takesWord_15 (by decide) (Nat.le_of_ble_eq_true rfl) ?_
    refine c_step hB hD.le hD.2.2.1 (fun mi2 ml2 f2 g8 d2 => ?_)
    refine j_iconst (v := 1) dX6_takesWord_18 (by decide) ?_
    refine j_zret rfl (by decide) dX6_takesWord_19 ?_
    rw [bN_eq0, Bool.not_eq_false, decide_eq_true_eq] at h5
    exact hO _ (by unfold pW; rw [if_pos h5]) mi2 ml2 f2 d2 (fun x hx => nomatch hx)
  · refine j_aload_n dX6_takesWord_8 rfl rfl ?_
    refine j_iconst (v := 1) dX6_takesWord_9 (by decide) ?_
    refine cV6_97 (d1 := 1) rfl dX6_takesWord_10 (by decide) (Nat.le_of_ble_eq_true rfl) ?_
    refine c_fails (x := 1) hD (fun mi2 ml2 f2 g0 g1 => ?_)
    refine j_zret rfl (by decide) dX6_takesWord_13 ?_
    rw [bN_eq0, decide_eq_false_iff_not] at h5
    exact hE (1, tA B n p) (by unfold pW; rw [if_neg h5]) mi2 ml2 f2 g0 g1
theorem c_takesWhole (hB : RB mi ml mr B n) (hD : RD mi ml B n p) {lo hi : Nat} (hlo : lo < 2 ^ 30) (hhi : hi < 2 ^ 30) (hE : ∀ e, pN B n lo hi p = .inl e → hEr post mi ml mr dom e) (hO : ∀ q, pN B n lo hi p = .inr q → hOk post mi ml mr dom B n q.1 (some q.2)) : CT G 4 0 0 yX6_takesWhole cX6_takesWhole 3 (some .boolean) [.ref 2, .int (nI lo), .int (nI hi)] mi ml mr dom post := by
  have h4 := tS_le B n p
  refine enter 0 (by decide) rfl rfl (fun X => ?_)
  refine j_aload_n dX6_takesWhole_0 rfl rfl ?_
  refine gI6_31 rfl dX6_takesWhole_1 ?_
  refine j_iconst (v := 2) dX6_takesWhole_4 (by decide) ?_
  rw [hD.2.2.2.1, show (2 : Int32) = nI 2 from rfl]
  refine j_icmp_eq (tgt := 14) dX6_takesWhole_5 (by decide) (fun h5 => ?_) (fun h5 => ?_)
  · rw [nI_eq (by omega) (by decide)] at h5
    have hv := tok_g hB.by h5
    refine j_aload_n dX6_takesWhole_14 rfl rfl ?_
    refine gL6_34 rfl dX6_takesWhole_15 ?_
    refine j_iload_n dX6_takesWhole_18 rfl rfl ?_
    refine j_i2l dX6_takesWhole_19 ?_
    rw [hD.2.2.2.2, hv.1, nI_l (by omega)]
    refine j_lcmp dX6_takesWhole_20 ?_
    refine j_if_lt (tgt := 34) dX6_takesWhole_21 (by decide) (fun h21 => ?_) (fun h21 => ?_)
    · refine j_aload_n dX6_takesWhole_34 rfl rfl ?_
      refine j_iconst (v := 4) dX6_takesWhole_35 (by decide) ?_
      refine cV6_97 (d1 := 1) rfl dX6_takesWhole_36 (by decide) (Nat.le_of_ble_eq_true rfl) ?_
      refine c_fails (x := 4) hD (fun mi2 ml2 f2 g0 g1 => ?_)
      refine j_zret rfl (by decide) dX6_takesWhole_39 ?_
      first
        | (rw [lg_cmp_lt, lN_lt (by omega) (by omega)] at h21
           exact hE (4, tA B n p) (by unfold pN; rw [if_neg (fun q => q h5), if_pos (Or.inl h21)]) mi2 ml2 f2 g0 g1)
        | (rw [lg_cmp_le, lN_le (by omega) (by omega)] at h31
           exact hE (4, tA B n p) (by unfold pN; rw [if_neg (fun q => q h5), if_pos (Or.inr (by omega))]) mi2 ml2 f2 g0 g1)
    · rw [lg_cmp_lt, lN_lt (by omega) (by omega)] at h21
      refine j_aload_n dX6_takesWhole_24 rfl rfl ?_
      refine gL6_34 rfl dX6_takesWhole_25 ?_
      refine j_iload_n dX6_takesWhole_28 rfl rfl ?_
      refine j_i2l dX6_takesWhole_29 ?_
      rw [hD.2.2.2.2, hv.1, nI_l (by omega)]
      refine j_lcmp dX6_takesWhole_30 ?_
      refine j_if_le (tgt := 40) dX6_takesWhole_31 (by decide) (fun h31 => ?_) (fun h31 => ?_)
      · rw [lg_cmp_le, lN_le (by omega) (by omega)] at h31
        refine j_aload_n dX6_takesWhole_40 rfl rfl ?_
        refine j_aload_n dX6_takesWhole_41 rfl rfl ?_
        refine gL6_34 rfl dX6_takesWhole_42 ?_
        refine j_l2i dX6_takesWhole_45 ?_
        rw [hD.2.2.2.2, hv.1, lN_i]
        refine pI6_38 rfl dX6_takesWhole_46 ?_
        refine j_aload_n dX6_takesWhole_49 rfl rfl ?_
        refine cV6_87 (d1 := 3) rfl dX6_takesWhole_50 (by decide) (Nat.le_of_ble_eq_true rfl) ?_
        refine c_step (hB.f2 (F2.got _)) hD.le ((up_ne _ _ (by decide)).trans hD.2.2.1) (fun mi2 ml2 f2 g8 d2 => ?_)
        refine j_iconst (v := 1) dX6_takesWhole_53 (by decide) ?_
        refine j_zret rfl (by decide) dX6_takesWhole_54 ?_
        exact hO (tE B n p, tV B n p) (by unfold pN; rw [if_neg (fun q => q h5), if_neg (by omega)]) mi2 ml2 ((F2.got _).tr f2) d2 (fun x hx => by cases hx; exact g8.trans (up_at _ _ _ _))
      · refine j_aload_n dX6_takesWhole_34 rfl rfl ?_
        refine j_iconst (v := 4) dX6_takesWhole_35 (by decide) ?_
        refine cV6_97 (d1 := 1) rfl dX6_takesWhole_36 (by decide) (Nat.le_of_ble_eq_true rfl) ?_
        refine c_fails (x := 4) hD (fun mi2 ml2 f2 g0 g1 => ?_)
        refine j_zret rfl (by decide) dX6_takesWhole_39 ?_
        first
          | (rw [lg_cmp_lt, lN_lt (by omega) (by omega)] at h21
             exact hE (4, tA B n p) (by unfold pN; rw [if_neg (fun q => q h5), if_pos (Or.inl h21)]) mi2 ml2 f2 g0 g1)
          | (rw [lg_cmp_le, lN_le (by omega) (by omega)] at h31
             exact hE (4, tA B n p) (by unfold pN; rw [if_neg (fun q => q h5), if_pos (Or.inr (by omega))]) mi2 ml2 f2 g0 g1)
  · rw [nI_eq (by omega) (by decide)] at h5
    refine j_aload_n dX6_takesWhole_8 rfl rfl ?_
    refine j_iconst (v := 1) dX6_takesWhole_9 (by decide) ?_
    refine cV6_97 (d1 := 1) rfl dX6_takesWhole_10 (by decide) (Nat.le_of_ble_eq_true rfl) ?_
    refine c_fails (x := 1) hD (fun mi2 ml2 f2 g0 g1 => ?_)
    refine j_zret rfl (by decide) dX6_takesWhole_13 ?_
    exact hE (1, tA B n p) (by unfold pN; rw [if_pos h5]) mi2 ml2 f2 g0 g1
theorem c_takesKind (hB : RB mi ml mr B n) (hD : RD mi ml B n p) (hE : ∀ e, pK B n p = .inl e → hEr post mi ml mr dom e) (hO : ∀ q, pK B n p = .inr q → hOk post mi ml mr dom B n q.1 (some q.2)) : CT G 8 0 0 yX6_takesKind cX6_takesKind 1 (some .boolean) [.ref 2] mi ml mr dom post := by
  refine enter 0 (by decide) rfl rfl (fun X => ?_)
  refine j_aload_n dX6_takesKind_0 rfl rfl ?_
  refine j_ldcS6_313 dX6_takesKind_1 ?_
  refine cV6_310 (d1 := 7) rfl dX6_takesKind_4 (by decide) (Nat.le_of_ble_eq_true rfl) ?_
  refine c_spells (i := 12) hD (by decide) ?_
  refine j_if_eq (tgt := 18) dX6_takesKind_7 (by decide) (fun h7 => ?_) (fun h7 => ?_)
  · rw [bN_eq0, decide_eq_false_iff_not] at h7
    refine j_aload_n dX6_takesKind_18 rfl rfl ?_
    refine j_ldcS6_315 dX6_takesKind_19 ?_
    refine cV6_310 (d1 := 7) rfl dX6_takesKind_22 (by decide) (Nat.le_of_ble_eq_true rfl) ?_
    refine c_spells (i := 13) hD (by decide) ?_
    refine j_if_eq (tgt := 36) dX6_takesKind_25 (by decide) (fun h25 => ?_) (fun h25 => ?_)
    · rw [bN_eq0, decide_eq_false_iff_not] at h25
      refine j_aload_n dX6_takesKind_36 rfl rfl ?_
      refine j_ldcS6_317 dX6_takesKind_37 ?_
      refine cV6_310 (d1 := 7) rfl dX6_takesKind_40 (by decide) (Nat.le_of_ble_eq_true rfl) ?_
      refine c_spells (i := 14) hD (by decide) ?_
      refine j_if_eq (tgt := 54) dX6_takesKind_43 (by decide) (fun h43 => ?_) (fun h43 => ?_)
      · rw [bN_eq0, decide_eq_false_iff_not] at h43
        refine j_aload_n dX6_takesKind_54 rfl rfl ?_
        refine j_iconst (v := 1) dX6_takesKind_55 (by decide) ?_
        refine cV6_97 (d1 := 1) rfl dX6_takesKind_56 (by decide) (Nat.le_of_ble_eq_true rfl) ?_
        refine c_fails (x := 1) hD (fun mi2 ml2 f2 g0 g1 => ?_)
        refine j_zret rfl (by decide) dX6_takesKind_59 ?_
        exact hE (1, tA B n p) (by unfold pK; rw [if_neg h7, if_neg h25, if_neg h43]) mi2 ml2 f2 g0 g1
      · rw [bN_eq0, Bool.not_eq_false, decide_eq_true_eq] at h43
        refine j_aload_n dX6_takesKind_46 rfl rfl ?_
        refine j_iconst (v := 2) dX6_takesKind_47 (by decide) ?_
        refine pI6_38 rfl dX6_takesKind_48 ?_
        refine j_goto (tgt := 60) dX6_takesKind_51 (by decide) ?_
        refine j_aload_n dX6_takesKind_60 rfl rfl ?_
        refine cV6_87 (d1 := 3) rfl dX6_takesKind_61 (by decide) (Nat.le_of_ble_eq_true rfl) ?_
        refine c_step (hB.f2 (F2.got _)) hD.le ((up_ne _ _ (by decide)).trans hD.2.2.1) (fun mi2 ml2 f2 g8 d2 => ?_)
        refine j_iconst (v := 1) dX6_takesKind_64 (by decide) ?_
        refine j_zret rfl (by decide) dX6_takesKind_65 ?_
        first
          | (exact hO (tE B n p, 0) (by unfold pK; rw [if_pos h7]) mi2 ml2 ((F2.got _).tr f2) d2 (fun x hx => by cases hx; exact g8.trans (up_at _ _ _ _)))
          | (exact hO (tE B n p, 1) (by unfold pK; rw [if_neg h7, if_pos h25]) mi2 ml2 ((F2.got _).tr f2) d2 (fun x hx => by cases hx; exact g8.trans (up_at _ _ _ _)))
          | (exact hO (tE B n p, 2) (by unfold pK; rw [if_neg h7, if_neg h25, if_pos h43]) mi2 ml2 ((F2.got _).tr f2) d2 (fun x hx => by cases hx; exact g8.trans (up_at _ _ _ _)))
    · rw [bN_eq0, Bool.not_eq_false, decide_eq_true_eq] at h25
      refine j_aload_n dX6_takesKind_28 rfl rfl ?_
      refine j_iconst (v := 1) dX6_takesKind_29 (by decide) ?_
      refine pI6_38 rfl dX6_takesKind_30 ?_
      refine j_goto (tgt := 60) dX6_takesKind_33 (by decide) ?_
      refine j_aload_n dX6_takesKind_60 rfl rfl ?_
      refine cV6_87 (d1 := 3) rfl dX6_takesKind_61 (by decide) (Nat.le_of_ble_eq_true rfl) ?_
      refine c_step (hB.f2 (F2.got _)) hD.le ((up_ne _ _ (by decide)).trans hD.2.2.1) (fun mi2 ml2 f2 g8 d2 => ?_)
      refine j_iconst (v := 1) dX6_takesKind_64 (by decide) ?_
      refine j_zret rfl (by decide) dX6_takesKind_65 ?_
      first
        | (exact hO (tE B n p, 0) (by unfold pK; rw [if_pos h7]) mi2 ml2 ((F2.got _).tr f2) d2 (fun x hx => by cases hx; exact g8.trans (up_at _ _ _ _)))
        | (exact hO (tE B n p, 1) (by unfold pK; rw [if_neg h7, if_pos h25]) mi2 ml2 ((F2.got _).tr f2) d2 (fun x hx => by cases hx; exact g8.trans (up_at _ _ _ _)))
        | (exact hO (tE B n p, 2) (by unfold pK; rw [if_neg h7, if_neg h25, if_pos h43]) mi2 ml2 ((F2.got _).tr f2) d2 (fun x hx => by cases hx; exact g8.trans (up_at _ _ _ _)))
  · rw [bN_eq0, Bool.not_eq_false, decide_eq_true_eq] at h7
    refine j_aload_n dX6_takesKind_10 rfl rfl ?_
    refine j_iconst (v := 0) dX6_takesKind_11 (by decide) ?_
    refine pI6_38 rfl dX6_takesKind_12 ?_
    refine j_goto (tgt := 60) dX6_takesKind_15 (by decide) ?_
    refine j_aload_n dX6_takesKind_60 rfl rfl ?_
    refine cV6_87 (d1 := 3) rfl dX6_takesKind_61 (by decide) (Nat.le_of_ble_eq_true rfl) ?_
    refine c_step (hB.f2 (F2.got _)) hD.le ((up_ne _ _ (by decide)).trans hD.2.2.1) (fun mi2 ml2 f2 g8 d2 => ?_)
    refine j_iconst (v := 1) dX6_takesKind_64 (by decide) ?_
    refine j_zret rfl (by decide) dX6_takesKind_65 ?_
    first
      | (exact hO (tE B n p, 0) (by unfold pK; rw [if_pos h7]) mi2 ml2 ((F2.got _).tr f2) d2 (fun x hx => by cases hx; exact g8.trans (up_at _ _ _ _)))
      | (exact hO (tE B n p, 1) (by unfold pK; rw [if_neg h7, if_pos h25]) mi2 ml2 ((F2.got _).tr f2) d2 (fun x hx => by cases hx; exact g8.trans (up_at _ _ _ _)))
      | (exact hO (tE B n p, 2) (by unfold pK; rw [if_neg h7, if_neg h25, if_pos h43]) mi2 ml2 ((F2.got _).tr f2) d2 (fun x hx => by cases hx; exact g8.trans (up_at _ _ _ _)))
theorem c_takesLook (hB : RB mi ml mr B n) (hD : RD mi ml B n p) {m : Nat} (hm : m < 2 ^ 30) (hE : ∀ e, pL B n m p = .inl e → hEr post mi ml mr dom e) (hO : ∀ q, pL B n m p = .inr q → hOk post mi ml mr dom B n q.1 (some q.2)) : CT G 4 0 0 yX6_takesLook cX6_takesLook 4 (some .boolean) [.ref 2, .int (nI m)] mi ml mr dom post := by
  have h4 := tS_le B n p
  have hn := hB.2.2.1
  have hEg := tE_ge B n p
  have hEl := hD.le
  refine enter 2 (by decide) rfl rfl (fun X => ?_)
  refine j_aload_n dX6_takesLook_0 rfl rfl ?_
  refine gI6_31 rfl dX6_takesLook_1 ?_
  refine j_iconst (v := 1) dX6_takesLook_4 (by decide) ?_
  rw [hD.2.2.2.1, show (1 : Int32) = nI 1 from rfl]
  refine j_icmp_eq (tgt := 14) dX6_takesLook_5 (by decide) (fun h5 => ?_) (fun h5 => ?_)
  · rw [nI_eq (by omega) (by decide)] at h5
    have tk := tok_l h5
    refine j_aload_n dX6_takesLook_14 rfl rfl ?_
    refine gI6_28 rfl dX6_takesLook_15 ?_
    refine j_aload_n dX6_takesLook_18 rfl rfl ?_
    refine gI6_25 rfl dX6_takesLook_19 ?_
    refine j_isub dX6_takesLook_22 ?_
    refine j_iload_n dX6_takesLook_23 rfl rfl ?_
    rw [hD.2.2.1, hD.2.1, pk_sub (by omega)]
    refine j_icmp_eq (tgt := 34) dX6_takesLook_24 (by decide) (fun h24 => ?_) (fun h24 => ?_)
    · rw [nI_eq (by omega) (by omega)] at h24
      refine j_iconst (v := 0) dX6_takesLook_34 (by decide) ?_
      refine j_istore_n (lv2 := [_, _, _, _]) dX6_takesLook_35 rfl (by decide) rfl rfl ?_
      refine j_aload_n dX6_takesLook_36 rfl rfl ?_
      refine gI6_25 rfl dX6_takesLook_37 ?_
      rw [hD.2.1]
      refine j_istore_n (lv2 := [_, _, _, _]) dX6_takesLook_40 rfl (by decide) rfl rfl ?_
      have hge0 := tE_ge B n p
      have hrg : (tA B n p) ≤ (rq (fun k => decide (B k ≤ 100)) (tE B n p) (tA B n p)) := rq_ge _ _ _
      have hrl : (rq (fun k => decide (B k ≤ 100)) (tE B n p) (tA B n p)) ≤ (tE B n p) := rq_le _ _ _ hge0
      have hle := hD.le
      have key : J cX6_takesLook 4 yX6_takesLook.cls yX6_takesLook.name (some .boolean) 4 G X post 0 0 mi ml mr dom 41 [some (.ref 2), some (.int (nI m)), some (.int (nI (lk B (tA B n p) ((tA B n p) - (tA B n p))))), some (.int (nI (tA B n p)))] [] := by
        refine rq_loop (Q := (fun k => decide (B k ≤ 100))) (n := (tE B n p)) (p := (tA B n p)) (H := fun i => J cX6_takesLook 4 yX6_takesLook.cls yX6_takesLook.name (some .boolean) 4 G X post 0 0 mi ml mr dom 41 [some (.ref 2), some (.int (nI m)), some (.int (nI (lk B (tA B n p) (i - (tA B n p))))), some (.int (nI i))] []) (fun i hai hi hq ih => ?_) ?_
        · have hin := tk.2.1 i hai hi
          have hs := (sx_lt _ (hB.by _ hin.2)).2.2.2.2.2.2.2.1 hin.1
          have hbl : 97 ≤ B i := by
            have := hin.1
            unfold isL at this
            simp only [Bool.and_eq_true, decide_eq_true_eq] at this
            exact this.1
          refine j_iload_n dX6_takesLook_41 rfl rfl ?_
          refine j_aload_n dX6_takesLook_42 rfl rfl ?_
          refine gI6_28 rfl dX6_takesLook_43 ?_
          rw [hD.2.2.1]
          refine j_icmp_ge (tgt := 87) dX6_takesLook_46 (by decide) (fun h46 => absurd h46 (nI_ge hi (by omega))) (fun _ => ?_)
          refine j_aload_n dX6_takesLook_49 rfl rfl ?_
          refine gR6_18 rfl dX6_takesLook_50 (hB.2.1) ?_
          refine j_iload_n dX6_takesLook_53 rfl rfl ?_
          refine j_bald rfl (inT (show ln 1 = 1100 from rfl) (show i < 1100 by omega) (by decide)) dX6_takesLook_54 ?_
          rw [nI_clamp (by omega), (hB.2.2.2.1 i hin.2).1]
          refine j_bipush (v := 100) dX6_takesLook_55 (by decide) ?_
          refine j_icmp_le (tgt := 67) dX6_takesLook_57 (by decide) (fun _ => ?_) (fun h57 => absurd (by rw [hs.1, show (100 : Int32) = nI 100 from rfl]; exact nI_le (by simpa using hq) (by decide)) h57)
          refine j_iconst (v := 4) dX6_takesLook_67 (by decide) ?_
          refine j_iload_n dX6_takesLook_68 rfl rfl ?_
          refine j_imul dX6_takesLook_69 ?_
          refine j_aload_n dX6_takesLook_70 rfl rfl ?_
          refine gR6_18 rfl dX6_takesLook_71 (hB.2.1) ?_
          refine j_iload_n dX6_takesLook_74 rfl rfl ?_
          refine j_bald rfl (inT (show ln 1 = 1100 from rfl) (show i < 1100 by omega) (by decide)) dX6_takesLook_75 ?_
          rw [nI_clamp (by omega), (hB.2.2.2.1 i hin.2).1]
          refine j_bipush (v := 97) dX6_takesLook_76 (by decide) ?_
          refine j_isub dX6_takesLook_78 ?_
          refine j_iadd dX6_takesLook_79 ?_
          refine j_istore_n (lv2 := [_, _, _, _]) dX6_takesLook_80 rfl (by decide) rfl rfl ?_
          refine j_iinc1 (lv2 := [_, _, _, _]) dX6_takesLook_81 rfl (by decide) rfl rfl ?_
          refine j_goto (tgt := 41) dX6_takesLook_84 (by decide) ?_
          rw [hs.1, show (97 : Int32) = nI 97 from rfl, pk_sub (by omega), show (4 : Int32) = nI 4 from rfl, pk_mul, nI_add, nI_1]
          rw [show i + 1 - (tA B n p) = (i - (tA B n p)) + 1 by omega, lk, show (tA B n p) + (i - (tA B n p)) = i by omega] at ih
          exact ih
        · show J cX6_takesLook 4 yX6_takesLook.cls yX6_takesLook.name (some .boolean) 4 G X post 0 0 mi ml mr dom 41 [some (.ref 2), some (.int (nI m)), some (.int (nI (lk B (tA B n p) ((rq (fun k => decide (B k ≤ 100)) (tE B n p) (tA B n p)) - (tA B n p))))), some (.int (nI (rq (fun k => decide (B k ≤ 100)) (tE B n p) (tA B n p))))] []
          refine j_iload_n dX6_takesLook_41 rfl rfl ?_
          refine j_aload_n dX6_takesLook_42 rfl rfl ?_
          refine gI6_28 rfl dX6_takesLook_43 ?_
          rw [hD.2.2.1]
          refine j_icmp_ge (tgt := 87) dX6_takesLook_46 (by decide) (fun h46 => ?_) (fun h46 => ?_)
          · have hge : (tE B n p) ≤ (rq (fun k => decide (B k ≤ 100)) (tE B n p) (tA B n p)) := by rw [nI_leI (by omega) (by omega)] at h46; exact h46
            refine j_aload_n dX6_takesLook_87 rfl rfl ?_
            refine j_iload_n dX6_takesLook_88 rfl rfl ?_
            refine pI6_38 rfl dX6_takesLook_89 ?_
            refine j_aload_n dX6_takesLook_92 rfl rfl ?_
            refine cV6_87 (d1 := 3) rfl dX6_takesLook_93 (by decide) (Nat.le_of_ble_eq_true rfl) ?_
            refine c_step (hB.f2 (F2.got _)) hD.le ((up_ne _ _ (by decide)).trans hD.2.2.1) (fun mi2 ml2 f2 g8 d2 => ?_)
            refine j_iconst (v := 1) dX6_takesLook_96 (by decide) ?_
            refine j_zret rfl (by decide) dX6_takesLook_97 ?_
            have er : (rq (fun k => decide (B k ≤ 100)) (tE B n p) (tA B n p)) = (tE B n p) := by omega
            exact hO (tE B n p, lk B (tA B n p) ((tE B n p) - (tA B n p))) (by unfold pL; rw [if_neg (fun q => q h5), if_neg (fun q => q h24), if_neg (by omega)]) mi2 ml2 ((F2.got _).tr f2) d2 (fun x hx => by cases hx; rw [g8, up_at, er])
          · have hlt : (rq (fun k => decide (B k ≤ 100)) (tE B n p) (tA B n p)) < (tE B n p) := by rw [nI_leI (by omega) (by omega)] at h46; omega
            have hin := tk.2.1 (rq (fun k => decide (B k ≤ 100)) (tE B n p) (tA B n p)) hrg hlt
            have hst := rq_stop (fun k => decide (B k ≤ 100)) (tE B n p) (tA B n p) hlt
            have hs := (sx_lt _ (hB.by _ hin.2)).2.2.2.2.2.2.2.1 hin.1
            refine j_aload_n dX6_takesLook_49 rfl rfl ?_
            refine gR6_18 rfl dX6_takesLook_50 (hB.2.1) ?_
            refine j_iload_n dX6_takesLook_53 rfl rfl ?_
            refine j_bald rfl (inT (show ln 1 = 1100 from rfl) (show (rq (fun k => decide (B k ≤ 100)) (tE B n p) (tA B n p)) < 1100 by omega) (by decide)) dX6_takesLook_54 ?_
            rw [nI_clamp (by omega), (hB.2.2.2.1 _ hin.2).1]
            refine j_bipush (v := 100) dX6_takesLook_55 (by decide) ?_
            refine j_icmp_le (tgt := 67) dX6_takesLook_57 (by decide) (fun h57 => ?_) (fun h57 => ?_)
            · exfalso
              have hb : B (rq (fun k => decide (B k ≤ 100)) (tE B n p) (tA B n p)) < 256 := hB.by _ hin.2
              rw [hs.1, show (100 : Int32) = nI 100 from rfl, nI_leI (by omega) (by decide)] at h57
              have : ¬ B (rq (fun k => decide (B k ≤ 100)) (tE B n p) (tA B n p)) ≤ 100 := by simpa using hst
              exact this h57
            · refine j_aload_n dX6_takesLook_60 rfl rfl ?_
              refine j_bipush (v := 7) dX6_takesLook_61 (by decide) ?_
              refine cV6_97 (d1 := 1) rfl dX6_takesLook_63 (by decide) (Nat.le_of_ble_eq_true rfl) ?_
              refine c_fails (x := 7) hD (fun mi2 ml2 f2 g0 g1 => ?_)
              refine j_zret rfl (by decide) dX6_takesLook_66 ?_
              exact hE (7, tA B n p) (by unfold pL; rw [if_neg (fun q => q h5), if_neg (fun q => q h24), if_pos hlt]) mi2 ml2 f2 g0 g1
      rw [Nat.sub_self, lk] at key
      exact key
    · rw [nI_eq (by omega) (by omega)] at h24
      refine j_aload_n dX6_takesLook_27 rfl rfl ?_
      refine j_bipush (v := 7) dX6_takesLook_28 (by decide) ?_
      refine cV6_97 (d1 := 1) rfl dX6_takesLook_30 (by decide) (Nat.le_of_ble_eq_true rfl) ?_
      refine c_fails (x := 7) hD (fun mi2 ml2 f2 g0 g1 => ?_)
      refine j_zret rfl (by decide) dX6_takesLook_33 ?_
      exact hE (7, tA B n p) (by unfold pL; rw [if_neg (fun q => q h5), if_pos h24]) mi2 ml2 f2 g0 g1
  · rw [nI_eq (by omega) (by decide)] at h5
    refine j_aload_n dX6_takesLook_8 rfl rfl ?_
    refine j_iconst (v := 1) dX6_takesLook_9 (by decide) ?_
    refine cV6_97 (d1 := 1) rfl dX6_takesLook_10 (by decide) (Nat.le_of_ble_eq_true rfl) ?_
    refine c_fails (x := 1) hD (fun mi2 ml2 f2 g0 g1 => ?_)
    refine j_zret rfl (by decide) dX6_takesLook_13 ?_
    exact hE (1, tA B n p) (by unfold pL; rw [if_pos h5]) mi2 ml2 f2 g0 g1
theorem m1_ne {a : Nat} (h : a < 2 ^ 31) : ¬ nI a = -1 := fun q => by
  have := congrArg Int32.toInt q
  rw [nI_toInt h] at this
  exact absurd this (by rw [show (-1 : Int32).toInt = -1 from rfl]; omega)
theorem c_findsName (hB : RB mi ml mr B n) (hD : RD mi ml B n p) {N : NS} (hN : RNm mi ml N) (hN2 : ∀ k, k < N.1 → N.2.2.1 k < 2 ^ 30) {s : Nat} (hs : s < 2 ^ 30) (hE : ∀ e, fN B n N s p = .inl e → hEr post mi ml mr dom e) (hO : ∀ v, fN B n N s p = .inr v → hOk post mi ml mr dom B n p (some v)) : CT G 3 0 0 yX6_findsName cX6_findsName 3 (some .boolean) [.ref 2, .int (nI s)] mi ml mr dom post := by
  have h17 := hN.1
  have hle : (ixN N (tH B n p)) ≤ N.1 := rq_le _ _ _ (by omega)
  refine enter 1 (by decide) rfl rfl (fun X => ?_)
  refine j_aload_n dX6_findsName_0 rfl rfl ?_
  refine cV6_319 (d1 := 2) rfl dX6_findsName_1 (by decide) (Nat.le_of_ble_eq_true rfl) ?_
  refine c_isName hB hD ?_
  refine j_if_ne (tgt := 13) dX6_findsName_4 (by decide) (fun h4 => ?_) (fun h4 => ?_)
  · rw [bN_eq0, Bool.not_eq_false, decide_eq_true_eq] at h4
    refine j_aload_n dX6_findsName_13 rfl rfl ?_
    refine cV6_322 (d1 := 1) rfl dX6_findsName_14 (by decide) (Nat.le_of_ble_eq_true rfl) ?_
    refine c_indexOfName hB hD hN ?_
    refine j_istore_n (lv2 := [_, _, _]) dX6_findsName_17 rfl (by decide) rfl rfl ?_
    refine j_iload_n dX6_findsName_18 rfl rfl ?_
    refine j_iconst (v := -1) dX6_findsName_19 (by decide) ?_
    refine j_icmp_eq (tgt := 33) dX6_findsName_20 (by decide) (fun h20 => ?_) (fun h20 => ?_)
    · refine j_aload_n dX6_findsName_33 rfl rfl ?_
      refine j_iconst (v := 2) dX6_findsName_34 (by decide) ?_
      refine cV6_97 (d1 := 1) rfl dX6_findsName_35 (by decide) (Nat.le_of_ble_eq_true rfl) ?_
      refine c_fails (x := 2) hD (fun mi2 ml2 f2 g0 g1 => ?_)
      refine j_zret rfl (by decide) dX6_findsName_38 ?_
      first
        | (rw [nI_eq (by have := hN2 _ hlt; omega) (by omega)] at h30
           exact hE (2, tA B n p) (by unfold fN; rw [if_neg (fun q => q h4), if_pos (Or.inr h30)]) mi2 ml2 f2 g0 g1)
        | (have hq : (ixN N (tH B n p)) = N.1 := by
             by_cases q : (ixN N (tH B n p)) < N.1
             · rw [if_pos q] at h20; exact absurd h20 (m1_ne (by omega))
             · omega
           exact hE (2, tA B n p) (by unfold fN; rw [if_neg (fun q => q h4), if_pos (Or.inl hq)]) mi2 ml2 f2 g0 g1)
    · have hlt : (ixN N (tH B n p)) < N.1 := by
        by_cases q : (ixN N (tH B n p)) < N.1
        · exact q
        · rw [if_neg q] at h20; exact absurd rfl h20
      rw [if_pos hlt]
      refine j_aload_n dX6_findsName_23 rfl rfl ?_
      refine gR6_48 rfl dX6_findsName_24 (x_nameSorts hB.1) ?_
      refine j_iload_n dX6_findsName_27 rfl rfl ?_
      refine j_iald rfl (inT (show ln 6 = 17 from rfl) (show (ixN N (tH B n p)) < 17 by omega) (by decide)) dX6_findsName_28 ?_
      rw [nI_clamp (by omega), (hN.2.2 _ hlt).2.1]
      refine j_iload_n dX6_findsName_29 rfl rfl ?_
      refine j_icmp_eq (tgt := 39) dX6_findsName_30 (by decide) (fun h30 => ?_) (fun h30 => ?_)
      · rw [nI_eq (by have := hN2 _ hlt; omega) (by omega)] at h30
        refine j_aload_n dX6_findsName_39 rfl rfl ?_
        refine j_aload_n dX6_findsName_40 rfl rfl ?_
        refine gR6_52 rfl dX6_findsName_41 (x_nameNumbers hB.1) ?_
        refine j_iload_n dX6_findsName_44 rfl rfl ?_
        refine j_iald rfl (inT (show ln 7 = 17 from rfl) (show (ixN N (tH B n p)) < 17 by omega) (by decide)) dX6_findsName_45 ?_
        rw [nI_clamp (by omega), (hN.2.2 _ hlt).2.2]
        refine pI6_38 rfl dX6_findsName_46 ?_
        refine j_iconst (v := 1) dX6_findsName_49 (by decide) ?_
        refine j_zret rfl (by decide) dX6_findsName_50 ?_
        exact hO _ (by unfold fN; rw [if_neg (fun q => q h4), if_neg (by omega)]) _ _ (F2.got _) ⟨hD.1, (up_ne _ _ (by decide)).trans hD.2.1, (up_ne _ _ (by decide)).trans hD.2.2.1, (up_ne _ _ (by decide)).trans hD.2.2.2.1, hD.2.2.2.2⟩ (fun x hx => by cases hx; exact up_at _ _ _ _)
      · refine j_aload_n dX6_findsName_33 rfl rfl ?_
        refine j_iconst (v := 2) dX6_findsName_34 (by decide) ?_
        refine cV6_97 (d1 := 1) rfl dX6_findsName_35 (by decide) (Nat.le_of_ble_eq_true rfl) ?_
        refine c_fails (x := 2) hD (fun mi2 ml2 f2 g0 g1 => ?_)
        refine j_zret rfl (by decide) dX6_findsName_38 ?_
        first
          | (rw [nI_eq (by have := hN2 _ hlt; omega) (by omega)] at h30
             exact hE (2, tA B n p) (by unfold fN; rw [if_neg (fun q => q h4), if_pos (Or.inr h30)]) mi2 ml2 f2 g0 g1)
          | (have hq : (ixN N (tH B n p)) = N.1 := by
               by_cases q : (ixN N (tH B n p)) < N.1
               · rw [if_pos q] at h20; exact absurd h20 (m1_ne (by omega))
               · omega
             exact hE (2, tA B n p) (by unfold fN; rw [if_neg (fun q => q h4), if_pos (Or.inl hq)]) mi2 ml2 f2 g0 g1)
  · rw [bN_eq0, decide_eq_false_iff_not] at h4
    refine j_aload_n dX6_findsName_7 rfl rfl ?_
    refine j_iconst (v := 1) dX6_findsName_8 (by decide) ?_
    refine cV6_97 (d1 := 1) rfl dX6_findsName_9 (by decide) (Nat.le_of_ble_eq_true rfl) ?_
    refine c_fails (x := 1) hD (fun mi2 ml2 f2 g0 g1 => ?_)
    refine j_zret rfl (by decide) dX6_findsName_12 ?_
    exact hE (1, tA B n p) (by unfold fN; rw [if_pos h4]) mi2 ml2 f2 g0 g1
theorem c_takesName (hB : RB mi ml mr B n) (hD : RD mi ml B n p) {N : NS} (hN : RNm mi ml N) (hN2 : ∀ k, k < N.1 → N.2.2.1 k < 2 ^ 30) {s : Nat} (hs : s < 2 ^ 30) (hE : ∀ e, fN B n N s p = .inl e → hEr post mi ml mr dom e) (hO : ∀ v, fN B n N s p = .inr v → hOk post mi ml mr dom B n (tE B n p) (some v)) : CT G 4 0 0 yX6_takesName cX6_takesName 2 (some .boolean) [.ref 2, .int (nI s)] mi ml mr dom post := by
  refine enter 0 (by decide) rfl rfl (fun X => ?_)
  refine j_aload_n dX6_takesName_0 rfl rfl ?_
  refine j_iload_n dX6_takesName_1 rfl rfl ?_
  refine cV6_211 (d1 := 3) rfl dX6_takesName_2 (by decide) (Nat.le_of_ble_eq_true rfl) ?_
  refine c_findsName hB hD hN hN2 hs (fun e he mi1 ml1 f1 g0 g1 => ?_) (fun v hv mi1 ml1 f1 d1 g8 => ?_)
  · refine j_if_ne (tgt := 10) dX6_takesName_5 (by decide) (fun h => absurd rfl h) (fun _ => ?_)
    refine j_iconst (v := 0) dX6_takesName_8 (by decide) ?_
    refine j_zret rfl (by decide) dX6_takesName_9 ?_
    exact hE e he mi1 ml1 f1 g0 g1
  · refine j_if_ne (tgt := 10) dX6_takesName_5 (by decide) (fun _ => ?_) (fun h => absurd h (by decide))
    refine j_aload_n dX6_takesName_10 rfl rfl ?_
    refine cV6_87 (d1 := 3) rfl dX6_takesName_11 (by decide) (Nat.le_of_ble_eq_true rfl) ?_
    refine c_step (hB.f2 f1) d1.le d1.2.2.1 (fun mi2 ml2 f2 g9 d2 => ?_)
    refine j_iconst (v := 1) dX6_takesName_14 (by decide) ?_
    refine j_zret rfl (by decide) dX6_takesName_15 ?_
    exact hO v hv mi2 ml2 (f1.tr f2) d2 (fun x hx => g9.trans (g8 x hx))
/-- the reader's cells and the names' rows may have changed -/
def F5 (mi : MI) (ml : ML) (mi' : MI) (ml' : ML) : Prop := (∀ a, a ≠ 2 → a ≠ 6 → a ≠ 7 → mi' a = mi a) ∧ (∀ a, a ≠ 2 → a ≠ 5 → ml' a = ml a) ∧ mi' 2 3 = mi 2 3
theorem F2.f5 {mi' : MI} {ml' : ML} (h : F2 mi ml mi' ml') : F5 mi ml mi' ml' := ⟨fun a h1 _ _ => h.1 a h1, fun a h1 _ => h.2.1 a h1, h.2.2.1⟩
theorem F5.tr {mi' mi2 : MI} {ml' ml2 : ML} (h : F5 mi ml mi' ml') (h2 : F5 mi' ml' mi2 ml2) : F5 mi ml mi2 ml2 := ⟨fun a x y z => (h2.1 a x y z).trans (h.1 a x y z), fun a x y => (h2.2.1 a x y).trans (h.2.1 a x y), h2.2.2.trans h.2.2⟩
theorem RB.f5 {mi' : MI} {ml' : ML} (h : RB mi ml mr B n) (f : F5 mi ml mi' ml') : RB mi' ml' mr B n := ⟨h.1, h.2.1, h.2.2.1, by rw [f.1 1 (by decide) (by decide) (by decide)]; exact h.2.2.2.1, f.2.2.trans h.2.2.2.2.1, by rw [f.2.1 4 (by decide) (by decide)]; exact h.2.2.2.2.2⟩
theorem c_takesNewName (hB : RB mi ml mr B n) (hD : RD mi ml B n p) {N : NS} (hN : RNm mi ml N) {s k : Nat} (hE : ∀ e, nN B n N s k p = .inl e → hEr post mi ml mr dom e) (hO : ∀ q, nN B n N s k p = .inr q → ∀ mi' ml', F5 mi ml mi' ml' → RD mi' ml' B n q.1 → RNm mi' ml' q.2 → post (some (.int 1)) mi' ml' mr dom) : CT G 4 0 0 yX6_takesNewName cX6_takesNewName 3 (some .boolean) [.ref 2, .int (nI s), .int (nI k)] mi ml mr dom post := by
  have h17 := hN.1
  have hle : (ixN N (tH B n p)) ≤ N.1 := rq_le _ _ _ (by omega)
  refine enter 0 (by decide) rfl rfl (fun X => ?_)
  refine j_aload_n dX6_takesNewName_0 rfl rfl ?_
  refine cV6_319 (d1 := 2) rfl dX6_takesNewName_1 (by decide) (Nat.le_of_ble_eq_true rfl) ?_
  refine c_isName hB hD ?_
  refine j_if_ne (tgt := 13) dX6_takesNewName_4 (by decide) (fun h4 => ?_) (fun h4 => ?_)
  · rw [bN_eq0, Bool.not_eq_false, decide_eq_true_eq] at h4
    refine j_aload_n dX6_takesNewName_13 rfl rfl ?_
    refine cV6_322 (d1 := 1) rfl dX6_takesNewName_14 (by decide) (Nat.le_of_ble_eq_true rfl) ?_
    refine c_indexOfName hB hD hN ?_
    refine j_iconst (v := -1) dX6_takesNewName_17 (by decide) ?_
    refine j_icmp_ne (tgt := 30) dX6_takesNewName_18 (by decide) (fun h18 => ?_) (fun h18 => ?_)
    · refine j_aload_n dX6_takesNewName_30 rfl rfl ?_
      refine j_iconst (v := 3) dX6_takesNewName_31 (by decide) ?_
      refine cV6_97 (d1 := 1) rfl dX6_takesNewName_32 (by decide) (Nat.le_of_ble_eq_true rfl) ?_
      refine c_fails (x := 3) hD (fun mi2 ml2 f2 g0 g1 => ?_)
      refine j_zret rfl (by decide) dX6_takesNewName_35 ?_
      first
        | (rw [nI_ltI (by omega) (by decide)] at h27
           exact hE (3, tA B n p) (by unfold nN; rw [if_neg (fun q => q h4), if_pos (Or.inr (by omega))]) mi2 ml2 f2 g0 g1)
        | (have hq : (ixN N (tH B n p)) < N.1 := by
             by_cases q : (ixN N (tH B n p)) < N.1
             · exact q
             · rw [if_neg q] at h18; exact absurd rfl h18
           exact hE (3, tA B n p) (by unfold nN; rw [if_neg (fun q => q h4), if_pos (Or.inl hq)]) mi2 ml2 f2 g0 g1)
    · have hno : ¬ (ixN N (tH B n p)) < N.1 := fun q => by
        rw [if_pos q] at h18; exact absurd h18 (m1_ne (by omega))
      refine j_aload_n dX6_takesNewName_21 rfl rfl ?_
      refine gI6_55 rfl dX6_takesNewName_22 ?_
      refine j_bipush (v := 17) dX6_takesNewName_25 (by decide) ?_
      rw [hN.2.1, show (17 : Int32) = nI 17 from rfl]
      refine j_icmp_lt (tgt := 36) dX6_takesNewName_27 (by decide) (fun h27 => ?_) (fun h27 => ?_)
      · rw [nI_ltI (by omega) (by decide)] at h27
        refine j_aload_n dX6_takesNewName_36 rfl rfl ?_
        refine gR6_45 rfl dX6_takesNewName_37 (x_names hB.1) ?_
        refine j_aload_n dX6_takesNewName_40 rfl rfl ?_
        refine gI6_55 rfl dX6_takesNewName_41 ?_
        refine j_aload_n dX6_takesNewName_44 rfl rfl ?_
        refine gL6_34 rfl dX6_takesNewName_45 ?_
        rw [hN.2.1, hD.2.2.2.2]
        refine j_last rfl (inT (show ln 5 = 17 from rfl) h27 (by decide)) dX6_takesNewName_48 ?_
        rw [nI_clamp (by omega)]
        refine j_aload_n dX6_takesNewName_49 rfl rfl ?_
        refine gR6_48 rfl dX6_takesNewName_50 (x_nameSorts hB.1) ?_
        refine j_aload_n dX6_takesNewName_53 rfl rfl ?_
        refine gI6_55 rfl dX6_takesNewName_54 ?_
        refine j_iload_n dX6_takesNewName_57 rfl rfl ?_
        rw [hN.2.1]
        refine j_iast rfl (inT (show ln 6 = 17 from rfl) h27 (by decide)) dX6_takesNewName_58 ?_
        rw [nI_clamp (by omega)]
        refine j_aload_n dX6_takesNewName_59 rfl rfl ?_
        refine gR6_52 rfl dX6_takesNewName_60 (x_nameNumbers hB.1) ?_
        refine j_aload_n dX6_takesNewName_63 rfl rfl ?_
        refine gI6_55 rfl dX6_takesNewName_64 ?_
        refine j_iload_n dX6_takesNewName_67 rfl rfl ?_
        rw [up_off _ _ (by decide), hN.2.1]
        refine j_iast rfl (inT (show ln 7 = 17 from rfl) h27 (by decide)) dX6_takesNewName_68 ?_
        rw [nI_clamp (by omega)]
        refine j_aload_n dX6_takesNewName_69 rfl rfl ?_
        refine j_dup dX6_takesNewName_70 rfl ?_
        refine gI6_55 rfl dX6_takesNewName_71 ?_
        refine j_iconst (v := 1) dX6_takesNewName_74 (by decide) ?_
        refine j_iadd dX6_takesNewName_75 ?_
        rw [up_off _ _ (by decide), up_off _ _ (by decide), hN.2.1, nI_1]
        refine pI6_55 rfl dX6_takesNewName_76 ?_
        have fm : F5 mi ml (up (up (up mi 6 N.1 (nI s)) 7 N.1 (nI k)) 2 13 (nI (N.1 + 1))) (upl ml 5 N.1 (tH B n p)) := ⟨fun a x y z => by rw [up_off _ _ x, up_off _ _ z, up_off _ _ y], fun a x y => upl_off _ _ y, by rw [up_ne _ _ (by decide), up_off _ _ (by decide), up_off _ _ (by decide)]⟩
        refine j_aload_n dX6_takesNewName_79 rfl rfl ?_
        refine cV6_87 (d1 := 3) rfl dX6_takesNewName_80 (by decide) (Nat.le_of_ble_eq_true rfl) ?_
        refine c_step (p := tE B n p) (hB.f5 fm) hD.le ((up_ne _ _ (by decide)).trans ((congrFun (up_off _ _ (by decide)) _).trans ((congrFun (up_off _ _ (by decide)) _).trans hD.2.2.1))) (fun mi2 ml2 f2 g8 d2 => ?_)
        refine j_iconst (v := 1) dX6_takesNewName_83 (by decide) ?_
        refine j_zret rfl (by decide) dX6_takesNewName_84 ?_
        refine hO (tE B n p, adN N (tH B n p) s k) (by unfold nN; rw [if_neg (fun q => q h4), if_neg (by omega)]) mi2 ml2 (fm.tr f2.f5) d2 ?_
        refine RNm.f2 (mi := (up (up (up mi 6 N.1 (nI s)) 7 N.1 (nI k)) 2 13 (nI (N.1 + 1)))) (ml := upl ml 5 N.1 (tH B n p)) ⟨by show N.1 + 1 ≤ 17; omega, up_at _ _ _ _, fun j hj => ?_⟩ f2
        have hj2 : j < N.1 + 1 := hj
        by_cases q : j = N.1
        · subst q
          refine ⟨?_, ?_, ?_⟩
          · rw [upl_at]; simp [adN]
          · rw [up_off _ _ (by decide), up_off _ _ (by decide), up_at]; simp [adN]
          · rw [up_off _ _ (by decide), up_at]; simp [adN]
        · have h9 := hN.2.2 j (by omega)
          refine ⟨?_, ?_, ?_⟩
          · rw [upl_ne _ _ q, h9.1]; simp [adN, q]
          · rw [up_off _ _ (by decide), up_off _ _ (by decide), up_ne _ _ q, h9.2.1]; simp [adN, q]
          · rw [up_off _ _ (by decide), up_ne _ _ q, up_off _ _ (by decide), h9.2.2]; simp [adN, q]
      · refine j_aload_n dX6_takesNewName_30 rfl rfl ?_
        refine j_iconst (v := 3) dX6_takesNewName_31 (by decide) ?_
        refine cV6_97 (d1 := 1) rfl dX6_takesNewName_32 (by decide) (Nat.le_of_ble_eq_true rfl) ?_
        refine c_fails (x := 3) hD (fun mi2 ml2 f2 g0 g1 => ?_)
        refine j_zret rfl (by decide) dX6_takesNewName_35 ?_
        first
          | (rw [nI_ltI (by omega) (by decide)] at h27
             exact hE (3, tA B n p) (by unfold nN; rw [if_neg (fun q => q h4), if_pos (Or.inr (by omega))]) mi2 ml2 f2 g0 g1)
          | (have hq : (ixN N (tH B n p)) < N.1 := by
               by_cases q : (ixN N (tH B n p)) < N.1
               · exact q
               · rw [if_neg q] at h18; exact absurd rfl h18
             exact hE (3, tA B n p) (by unfold nN; rw [if_neg (fun q => q h4), if_pos (Or.inl hq)]) mi2 ml2 f2 g0 g1)
  · rw [bN_eq0, decide_eq_false_iff_not] at h4
    refine j_aload_n dX6_takesNewName_7 rfl rfl ?_
    refine j_iconst (v := 1) dX6_takesNewName_8 (by decide) ?_
    refine cV6_97 (d1 := 1) rfl dX6_takesNewName_9 (by decide) (Nat.le_of_ble_eq_true rfl) ?_
    refine c_fails (x := 1) hD (fun mi2 ml2 f2 g0 g1 => ?_)
    refine j_zret rfl (by decide) dX6_takesNewName_12 ?_
    exact hE (1, tA B n p) (by unfold nN; rw [if_pos h4]) mi2 ml2 f2 g0 g1
end C6c
