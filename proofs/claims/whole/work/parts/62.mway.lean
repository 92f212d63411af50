/-! the reference: wayAt; the way is short -/
theorem cnt_mono {P Q : Nat → Bool} : ∀ n, (∀ x, x < n → P x = true → Q x = true) → cnt P n ≤ cnt Q n := by
  intro n
  induction n with
  | zero => intro _; exact Nat.le_refl _
  | succ n ih =>
    intro h
    have := ih (fun x hx => h x (by omega))
    have := h n (by omega)
    unfold cnt
    cases hP : P n
    · rw [if_neg (by decide)]; split <;> omega
    · rw [if_pos rfl, h n (by omega) hP, if_pos rfl]; omega
theorem cnt_lt {P Q : Nat → Bool} : ∀ n y, (∀ x, x < n → P x = true → Q x = true) → y < n → P y = false → Q y = true → cnt P n < cnt Q n := by
  intro n
  induction n with
  | zero => intro y _ hy; omega
  | succ n ih =>
    intro y h hy h1 h2
    have hm := cnt_mono n (fun x hx => h x (by omega))
    unfold cnt
    by_cases q : y = n
    · subst q; rw [h1, h2, if_neg (by decide), if_pos rfl]; omega
    · have := ih y (fun x hx => h x (by omega)) (by omega) h1 h2
      cases hP : P n
      · rw [if_neg (by decide)]; split <;> omega
      · rw [if_pos rfl, h n (by omega) hP, if_pos rfl]; omega
section WAY
variable {t : TW} {a g j n i : Nat}
theorem cf_lt {x : Nat} (h : x < 99999) : cf x = x := if_pos h
theorem cf_ge {x : Nat} (h : ¬ x < 99999) : cf x = 1000000 := if_neg h
theorem nxW_cf (hlt : t 3 (6 * a + g) < 99999) (b : Nat) : nxW (t 2) (fun i => cf (t 3 i)) a g b = nxW (t 2) (t 3) a g b := by
  unfold nxW
  show (_ && decide (t 2 (6 * a + b) + cf (t 3 (6 * b + g)) = cf (t 3 (6 * a + g)))) = _
  rw [cf_lt hlt]
  by_cases q : t 3 (6 * b + g) < 99999
  · rw [cf_lt q]
  · rw [cf_ge q, decide_eq_false (p := t 2 (6 * a + b) + 1000000 = t 3 (6 * a + g)) (by omega), decide_eq_false (p := t 2 (6 * a + b) + t 3 (6 * b + g) = t 3 (6 * a + g)) (by omega)]
theorem nx_ex (hD : DS 99999 (t 2) (t 3)) (ha : a < 6) (hg : g < 6) (hne : a ≠ g) (hlt : t 3 (6 * a + g) < 99999) : ∃ b, b < 6 ∧ nxW (t 2) (t 3) a g b = true := by
  obtain ⟨b, h1, h2, h3⟩ := hD.2.2.2.1 a g ha hg hne hlt
  exact ⟨b, h1, by unfold nxW; rw [decide_eq_true h2, decide_eq_true h3]; rfl⟩
theorem nxW_t {b : Nat} (h : nxW (t 2) (t 3) a g b = true) : 0 < t 2 (6 * a + b) ∧ t 2 (6 * a + b) + t 3 (6 * b + g) = t 3 (6 * a + g) := by
  unfold nxW at h; rw [Bool.and_eq_true, decide_eq_true_eq, decide_eq_true_eq] at h; exact h
theorem wa_s (hlt : t 3 (6 * a + g) < 99999) (hj : j < 6) (hn : nxW (t 2) (t 3) a g j = true) (hq : ∀ x, x < j → nxW (t 2) (t 3) a g x = false) : wa (t 2) (fun i => cf (t 3 i)) g (n + 1) a = wa (t 2) (fun i => cf (t 3 i)) g n j := by
  have e := nxF_is (mn := t 2) (fw := fun i => cf (t 3 i)) (a := a) (g := g) hj (by rw [nxW_cf hlt]; exact hn) (fun x hx => by rw [nxW_cf hlt]; exact hq x hx)
  rw [wa, e, if_pos hj]
theorem wa_e (hD : DS 99999 (t 2) (t 3)) (hg : g < 6) : wa (t 2) (fun i => cf (t 3 i)) g (n + 1) g = none := by
  have h0 := hD.1 g hg
  have e := nxF_no (mn := t 2) (fw := fun i => cf (t 3 i)) (a := g) (g := g) (fun x hx => by
    rw [nxW_cf (by omega)]
    cases h : nxW (t 2) (t 3) g g x
    · rfl
    · have := nxW_t h; omega)
  rw [wa, e, if_neg (by decide)]
def rnk (t : TW) (g a : Nat) : Nat := cnt (fun x => decide (t 3 (6 * x + g) < t 3 (6 * a + g))) 6
theorem rnk_5 (ha : a < 6) : rnk t g a < 6 := by
  have h1 : rnk t g a < cnt (fun _ => true) 6 := cnt_lt 6 a (fun _ _ _ => rfl) ha (decide_eq_false (by omega)) rfl
  have h2 : cnt (fun _ => true) 6 = 6 := by decide
  omega
theorem first_nx : ∀ n, (∀ x, x < n → nxW (t 2) (t 3) a g x = false) ∨ ∃ b, b < n ∧ nxW (t 2) (t 3) a g b = true ∧ ∀ x, x < b → nxW (t 2) (t 3) a g x = false := by
  intro n
  induction n with
  | zero => left; intro x hx; omega
  | succ n ih =>
    rcases ih with h | ⟨b, h1, h2, h3⟩
    · cases q : nxW (t 2) (t 3) a g n
      · left; intro x hx
        by_cases e : x = n
        · subst e; exact q
        · exact h x (by omega)
      · right; exact ⟨n, by omega, q, h⟩
    · right; exact ⟨b, by omega, h2, h3⟩
theorem wa_long (hD : DS 99999 (t 2) (t 3)) (hg : g < 6) : ∀ n a, a < 6 → t 3 (6 * a + g) < 99999 → rnk t g a < n → wa (t 2) (fun i => cf (t 3 i)) g n a = none := by
  intro n
  induction n with
  | zero => intro a _ _ h; omega
  | succ n ih =>
    intro a ha hlt hr
    by_cases e : a = g
    · subst e; exact wa_e hD hg
    · rcases first_nx (t := t) (a := a) (g := g) 6 with h | ⟨b, h1, h2, h3⟩
      · obtain ⟨b, b1, b2⟩ := nx_ex hD ha hg e hlt
        rw [h b b1] at b2; cases b2
      · rw [wa_s hlt h1 h2 h3]
        have q := nxW_t h2
        refine ih b h1 (by omega) ?_
        have : rnk t g b < rnk t g a := cnt_lt 6 b (fun x _ hx => by rw [decide_eq_true_eq] at hx ⊢; omega) h1 (decide_eq_false (by omega)) (decide_eq_true (by omega))
        omega
end WAY
section M13w
variable {G : GG} {post : PT} {mi : MI} {ml : ML} {mr : MR} {dom : List Nat} {M : Nat} {t : TW} {v : Nat → Nat}
theorem mx_wayAt {h g i : Nat} (hX : XM mr) (hM : MM M) (hY : XT mr M) (hTn : mr 1000 3 = some M) (hg : GB t) (hW : WT t) (hR : RM mi M t) (hD : DS 99999 (t 2) (t 3)) (h1 : h < t 0 3) (h2 : g < t 0 3) (h3 : t 3 (6 * h + g) < 99999) (hi : i < 2 ^ 31) (hp : (wa (t 2) (fun i => cf (t 3 i)) g i h = none → post (some (.int (-1))) (rf mi (nI 1)) ml mr dom) ∧ (∀ a, wa (t 2) (fun i => cf (t 3 i)) g i h = some a → post (some (.int (nI a))) (fa mi) ml mr dom)) : CT G 3 0 0 yX13_wayAt cX13_wayAt 7 (some .int) [.ref 1000, .int (nI h), .int (nI g), .int (nI i)] mi ml mr dom post := by
  have w := hW.1
  have hge := hM.ge
  refine enter 3 (by decide) rfl rfl (fun X => ?_)
  refine j_aload_n dX13_wayAt_0 rfl rfl ?_
  refine j_iconst (v := nI 0) dX13_wayAt_1 (by decide) ?_
  refine pI13_51 rfl dX13_wayAt_2 ?_
  obtain ⟨m1, e1⟩ : ∃ m, m = up mi 1000 0 (nI 0) := ⟨_, rfl⟩
  rw [← e1]
  have hR1 : RM m1 M t := RM_lo hM (fun n hn => by rw [e1, up_off _ _ (by omega)]) hR
  refine j_aload_n dX13_wayAt_5 rfl rfl ?_
  refine j_iload_n dX13_wayAt_6 rfl rfl ?_
  refine cV13_352 (d1 := 1) rfl dX13_wayAt_7 (by decide) (Nat.le_of_ble_eq_true rfl) ?_
  refine m_isHouseG hX hM hY hTn hg hW hR1 (by omega) ?_
  refine j_if_eq (tgt := 40) dX13_wayAt_10 (by decide) (fun h10 => absurd h10 (by decide)) (fun h10 => ?_)
  refine j_aload_n dX13_wayAt_13 rfl rfl ?_
  refine j_iload_n dX13_wayAt_14 rfl rfl ?_
  refine cV13_352 (d1 := 1) rfl dX13_wayAt_15 (by decide) (Nat.le_of_ble_eq_true rfl) ?_
  refine m_isHouseG hX hM hY hTn hg hW hR1 (by omega) ?_
  refine j_if_eq (tgt := 40) dX13_wayAt_18 (by decide) (fun h18 => absurd h18 (by decide)) (fun h18 => ?_)
  refine j_iload_n dX13_wayAt_21 rfl rfl ?_
  refine j_if_lt (tgt := 40) dX13_wayAt_22 (by decide) (fun h22 => absurd h22 (nI_pos (by omega))) (fun h22 => ?_)
  refine j_aload_n dX13_wayAt_25 rfl rfl ?_
  refine gR13_335 rfl dX13_wayAt_26 hTn ?_
  refine j_iload_n dX13_wayAt_29 rfl rfl ?_
  refine j_iload_n dX13_wayAt_30 rfl rfl ?_
  refine cV13_410 (d1 := 1) (kM0 hM) dX13_wayAt_31 (by decide) (Nat.le_of_ble_eq_true rfl) ?_
  refine m_far hM hY hg hW hR1 (by show h < 6; omega) (by show g < 6; omega) ?_
  refine j_ldcw wd1913 dX13_wayAt_34 ?_
  rw [show (99999 : Int32) = nI 99999 from rfl]
  refine j_icmp_lt (tgt := 46) dX13_wayAt_37 (by decide) (fun h37 => ?_) (fun h37 => by exfalso; rw [nI_ltI (by have := hg 3 (6 * h + g); omega) (by omega)] at h37; have := hg 3 (6 * h + g); omega)
  refine j_iload_n dX13_wayAt_46 rfl rfl ?_
  refine j_istore (lv2 := [_, _, _, _, _, _, _]) dX13_wayAt_47 (by decide) rfl rfl ?_
  refine j_iconst (v := nI 0) dX13_wayAt_49 (by decide) ?_
  refine j_istore (lv2 := [_, _, _, _, _, _, _]) dX13_wayAt_50 (by decide) rfl rfl ?_
  have key : ∀ n a k, t 3 (6 * a + g) = n → n < 99999 → a < 6 → k ≤ i → wa (t 2) (fun i => cf (t 3 i)) g (i - k) a = wa (t 2) (fun i => cf (t 3 i)) g i h → ∀ z : Option Value, J cX13_wayAt 7 yX13_wayAt.cls yX13_wayAt.name (some .int) 3 G X post 0 0 m1 ml mr dom 52 [some (.ref 1000), some (.int (nI h)), some (.int (nI g)), some (.int (nI i)), some (.int (nI a)), some (.int (nI k)), z] [] := by
    intro n
    refine Nat.strongRecOn n (fun n ihn a k han hn9 ha6 hki hwa z => ?_)
    refine j_iload dX13_wayAt_52 rfl ?_
    refine j_iload_n dX13_wayAt_54 rfl rfl ?_
    refine j_icmp_ge (tgt := 148) dX13_wayAt_55 (by decide) (fun h55 => ?_) (fun h55 => ?_)
    all_goals rw [nI_leI (by omega) (by omega)] at h55
    · refine j_aload_n dX13_wayAt_148 rfl rfl ?_
      refine j_iload dX13_wayAt_149 rfl ?_
      refine cV13_61 (d1 := 1) rfl dX13_wayAt_151 (by decide) (Nat.le_of_ble_eq_true rfl) ?_
      refine m_fair ?_
      refine j_iret rfl dX13_wayAt_154 ?_
      have hk2 : k = i := by omega
      rw [e1]; exact hp.2 a (by rw [← hwa, hk2, Nat.sub_self]; rfl)
    · refine j_iload dX13_wayAt_58 rfl ?_
      refine j_iload_n dX13_wayAt_60 rfl rfl ?_
      refine j_icmp_ne (tgt := 70) dX13_wayAt_61 (by decide) (fun h61 => ?_) (fun h61 => ?_)
      all_goals rw [nI_eq (by omega) (by omega)] at h61
      · refine j_iconst (v := nI 0) dX13_wayAt_70 (by decide) ?_
        refine j_istore (lv2 := [_, _, _, _, _, _, _]) dX13_wayAt_71 (by decide) rfl rfl ?_
        obtain ⟨b0, hb0, hn0⟩ := nx_ex hD ha6 (show g < 6 by omega) h61 (by omega)
        refine lp (n := 6) (H := fun j => J cX13_wayAt 7 yX13_wayAt.cls yX13_wayAt.name (some .int) 3 G X post 0 0 m1 ml mr dom 73 [some (.ref 1000), some (.int (nI h)), some (.int (nI g)), some (.int (nI i)), some (.int (nI a)), some (.int (nI k)), some (.int (nI j))] []) (Q := fun j => ∀ x, x < j → nxW (t 2) (t 3) a g x = false) (fun hq => ?_) (fun j hj hq ih => ?_) (fun x hx => absurd hx (by omega))
        · have := hq b0 hb0; rw [hn0] at this; cases this
        · skip
          refine j_aload_n dX13_wayAt_73 rfl rfl ?_
          refine gR13_335 rfl dX13_wayAt_74 hTn ?_
          refine gR13_257 (kM0 hM) dX13_wayAt_77 (xM2 hY) ?_
          refine j_bipush (v := nI 6) dX13_wayAt_80 (by decide) ?_
          refine j_iload dX13_wayAt_82 rfl ?_
          refine j_imul dX13_wayAt_84 ?_
          rw [pk_mul]
          refine j_iload dX13_wayAt_85 rfl ?_
          refine j_iadd dX13_wayAt_87 ?_
          rw [nI_add]
          refine j_iald (kM2 hM) (inT (lM2 hM) (by show (6 * a) + j < 36; omega) (by decide)) dX13_wayAt_88 ?_
          rw [nI_clamp (by omega), rM2 hR1 (by show (6 * a) + j < 36; omega)]
          refine j_if_eq (tgt := 132) dX13_wayAt_89 (by decide) (fun h89 => ?_) (fun h89 => ?_)
          all_goals rw [show (0 : Int32) = nI 0 from rfl, nI_eq (by have := hg 2 ((6 * a) + j); omega) (by decide)] at h89
          · refine j_iinc1 (lv2 := [_, _, _, _, _, _, _]) dX13_wayAt_132 rfl (by decide) rfl rfl ?_
            rw [nI_1]
            refine j_goto (tgt := 73) dX13_wayAt_135 (by decide) ?_
            exact ih (fun x hx => by
              by_cases q : x = j
              · subst q
                cases hh : nxW (t 2) (t 3) a g x
                · rfl
                · have := nxW_t hh; omega
              · exact hq x (by omega))
          · refine j_aload_n dX13_wayAt_92 rfl rfl ?_
            refine gR13_335 rfl dX13_wayAt_93 hTn ?_
            refine gR13_257 (kM0 hM) dX13_wayAt_96 (xM2 hY) ?_
            refine j_bipush (v := nI 6) dX13_wayAt_99 (by decide) ?_
            refine j_iload dX13_wayAt_101 rfl ?_
            refine j_imul dX13_wayAt_103 ?_
            rw [pk_mul]
            refine j_iload dX13_wayAt_104 rfl ?_
            refine j_iadd dX13_wayAt_106 ?_
            rw [nI_add]
            refine j_iald (kM2 hM) (inT (lM2 hM) (by show (6 * a) + j < 36; omega) (by decide)) dX13_wayAt_107 ?_
            rw [nI_clamp (by omega), rM2 hR1 (by show (6 * a) + j < 36; omega)]
            refine j_aload_n dX13_wayAt_108 rfl rfl ?_
            refine gR13_335 rfl dX13_wayAt_109 hTn ?_
            refine j_iload dX13_wayAt_112 rfl ?_
            refine j_iload_n dX13_wayAt_114 rfl rfl ?_
            refine cV13_410 (d1 := 1) (kM0 hM) dX13_wayAt_115 (by decide) (Nat.le_of_ble_eq_true rfl) ?_
            refine m_far hM hY hg hW hR1 (by show j < 6; omega) (by show g < 6; omega) ?_
            refine j_iadd dX13_wayAt_118 ?_
            rw [nI_add]
            refine j_aload_n dX13_wayAt_119 rfl rfl ?_
            refine gR13_335 rfl dX13_wayAt_120 hTn ?_
            refine j_iload dX13_wayAt_123 rfl ?_
            refine j_iload_n dX13_wayAt_125 rfl rfl ?_
            refine cV13_410 (d1 := 1) (kM0 hM) dX13_wayAt_126 (by decide) (Nat.le_of_ble_eq_true rfl) ?_
            refine m_far hM hY hg hW hR1 (by show a < 6; omega) (by show g < 6; omega) ?_
            refine j_icmp_eq (tgt := 138) dX13_wayAt_129 (by decide) (fun h129 => ?_) (fun h129 => ?_)
            all_goals rw [nI_eq (by have := hg 2 ((6 * a) + j); have := hg 3 (6 * j + g); omega) (by have := hg 3 (6 * a + g); omega)] at h129
            · refine j_iload dX13_wayAt_138 rfl ?_
              refine j_istore (lv2 := [_, _, _, _, _, _, _]) dX13_wayAt_140 (by decide) rfl rfl ?_
              refine j_iinc1 (lv2 := [_, _, _, _, _, _, _]) dX13_wayAt_142 rfl (by decide) rfl rfl ?_
              rw [nI_1]
              refine j_goto (tgt := 52) dX13_wayAt_145 (by decide) ?_
              have hnx : nxW (t 2) (t 3) a g j = true := by unfold nxW; rw [decide_eq_true (show 0 < t 2 (6 * a + j) by omega), decide_eq_true h129]; rfl
              exact ihn (t 3 (6 * j + g)) (by omega) j (k + 1) rfl (by omega) hj (by omega) (by rw [← hwa, show i - k = (i - (k + 1)) + 1 by omega]; exact (wa_s (by omega) hj hnx hq).symm) _
            · refine j_iinc1 (lv2 := [_, _, _, _, _, _, _]) dX13_wayAt_132 rfl (by decide) rfl rfl ?_
              rw [nI_1]
              refine j_goto (tgt := 73) dX13_wayAt_135 (by decide) ?_
              exact ih (fun x hx => by
                by_cases q : x = j
                · subst q
                  cases hh : nxW (t 2) (t 3) a g x
                  · rfl
                  · have := nxW_t hh; omega
                · exact hq x (by omega))
      · refine j_aload_n dX13_wayAt_64 rfl rfl ?_
        refine j_iconst (v := nI 1) dX13_wayAt_65 (by decide) ?_
        refine cV13_57 (d1 := 1) rfl dX13_wayAt_66 (by decide) (Nat.le_of_ble_eq_true rfl) ?_
        refine m_refused ?_
        refine j_iret rfl dX13_wayAt_69 ?_
        rw [e1]; exact hp.1 (by rw [← hwa, show i - k = (i - (k + 1)) + 1 by omega, show a = g by omega]; exact wa_e hD (by omega))
  exact key _ h 0 rfl h3 (by omega) (Nat.zero_le _) rfl none
theorem mx_wayAtB4 {h g i : Nat} (hX : XM mr) (hM : MM M) (hY : XT mr M) (hTn : mr 1000 3 = some M) (hg : GB t) (hW : WT t) (hR : RM mi M t) (h1 : h < t 0 3) (h2 : g < t 0 3) (h3 : ¬ t 3 (6 * h + g) < 99999) (hi : i < 2 ^ 31) (hp : post (some (.int (-1))) (rf mi (nI 1)) ml mr dom) : CT G 3 0 0 yX13_wayAt cX13_wayAt 7 (some .int) [.ref 1000, .int (nI h), .int (nI g), .int (nI i)] mi ml mr dom post := by
  have w := hW.1
  have hge := hM.ge
  refine enter 3 (by decide) rfl rfl (fun X => ?_)
  refine j_aload_n dX13_wayAt_0 rfl rfl ?_
  refine j_iconst (v := nI 0) dX13_wayAt_1 (by decide) ?_
  refine pI13_51 rfl dX13_wayAt_2 ?_
  obtain ⟨m1, e1⟩ : ∃ m, m = up mi 1000 0 (nI 0) := ⟨_, rfl⟩
  rw [← e1]
  have hR1 : RM m1 M t := RM_lo hM (fun n hn => by rw [e1, up_off _ _ (by omega)]) hR
  refine j_aload_n dX13_wayAt_5 rfl rfl ?_
  refine j_iload_n dX13_wayAt_6 rfl rfl ?_
  refine cV13_352 (d1 := 1) rfl dX13_wayAt_7 (by decide) (Nat.le_of_ble_eq_true rfl) ?_
  refine m_isHouseG hX hM hY hTn hg hW hR1 (by omega) ?_
  refine j_if_eq (tgt := 40) dX13_wayAt_10 (by decide) (fun h10 => absurd h10 (by decide)) (fun h10 => ?_)
  refine j_aload_n dX13_wayAt_13 rfl rfl ?_
  refine j_iload_n dX13_wayAt_14 rfl rfl ?_
  refine cV13_352 (d1 := 1) rfl dX13_wayAt_15 (by decide) (Nat.le_of_ble_eq_true rfl) ?_
  refine m_isHouseG hX hM hY hTn hg hW hR1 (by omega) ?_
  refine j_if_eq (tgt := 40) dX13_wayAt_18 (by decide) (fun h18 => absurd h18 (by decide)) (fun h18 => ?_)
  refine j_iload_n dX13_wayAt_21 rfl rfl ?_
  refine j_if_lt (tgt := 40) dX13_wayAt_22 (by decide) (fun h22 => absurd h22 (nI_pos (by omega))) (fun h22 => ?_)
  refine j_aload_n dX13_wayAt_25 rfl rfl ?_
  refine gR13_335 rfl dX13_wayAt_26 hTn ?_
  refine j_iload_n dX13_wayAt_29 rfl rfl ?_
  refine j_iload_n dX13_wayAt_30 rfl rfl ?_
  refine cV13_410 (d1 := 1) (kM0 hM) dX13_wayAt_31 (by decide) (Nat.le_of_ble_eq_true rfl) ?_
  refine m_far hM hY hg hW hR1 (by show h < 6; omega) (by show g < 6; omega) ?_
  refine j_ldcw wd1913 dX13_wayAt_34 ?_
  rw [show (99999 : Int32) = nI 99999 from rfl]
  refine j_icmp_lt (tgt := 46) dX13_wayAt_37 (by decide) (fun h37 => by exfalso; rw [nI_ltI (by have := hg 3 (6 * h + g); omega) (by omega)] at h37; have := hg 3 (6 * h + g); omega) (fun h37 => ?_)
  refine j_aload_n dX13_wayAt_40 rfl rfl ?_
  refine j_iconst (v := nI 1) dX13_wayAt_41 (by decide) ?_
  refine cV13_57 (d1 := 1) rfl dX13_wayAt_42 (by decide) (Nat.le_of_ble_eq_true rfl) ?_
  refine m_refused ?_
  refine j_iret rfl dX13_wayAt_45 ?_
  rw [e1]; exact hp
theorem mx_wayAtB3 {h g : Nat} {z : Int32} (hX : XM mr) (hM : MM M) (hY : XT mr M) (hTn : mr 1000 3 = some M) (hg : GB t) (hW : WT t) (hR : RM mi M t) (h1 : h < t 0 3) (h2 : g < t 0 3) (hz : z < 0) (hp : post (some (.int (-1))) (rf mi (nI 1)) ml mr dom) : CT G 3 0 0 yX13_wayAt cX13_wayAt 7 (some .int) [.ref 1000, .int (nI h), .int (nI g), .int z] mi ml mr dom post := by
  have w := hW.1
  have hge := hM.ge
  refine enter 3 (by decide) rfl rfl (fun X => ?_)
  refine j_aload_n dX13_wayAt_0 rfl rfl ?_
  refine j_iconst (v := nI 0) dX13_wayAt_1 (by decide) ?_
  refine pI13_51 rfl dX13_wayAt_2 ?_
  obtain ⟨m1, e1⟩ : ∃ m, m = up mi 1000 0 (nI 0) := ⟨_, rfl⟩
  rw [← e1]
  have hR1 : RM m1 M t := RM_lo hM (fun n hn => by rw [e1, up_off _ _ (by omega)]) hR
  refine j_aload_n dX13_wayAt_5 rfl rfl ?_
  refine j_iload_n dX13_wayAt_6 rfl rfl ?_
  refine cV13_352 (d1 := 1) rfl dX13_wayAt_7 (by decide) (Nat.le_of_ble_eq_true rfl) ?_
  refine m_isHouseG hX hM hY hTn hg hW hR1 (by omega) ?_
  refine j_if_eq (tgt := 40) dX13_wayAt_10 (by decide) (fun h10 => absurd h10 (by decide)) (fun h10 => ?_)
  refine j_aload_n dX13_wayAt_13 rfl rfl ?_
  refine j_iload_n dX13_wayAt_14 rfl rfl ?_
  refine cV13_352 (d1 := 1) rfl dX13_wayAt_15 (by decide) (Nat.le_of_ble_eq_true rfl) ?_
  refine m_isHouseG hX hM hY hTn hg hW hR1 (by omega) ?_
  refine j_if_eq (tgt := 40) dX13_wayAt_18 (by decide) (fun h18 => absurd h18 (by decide)) (fun h18 => ?_)
  refine j_iload_n dX13_wayAt_21 rfl rfl ?_
  refine j_if_lt (tgt := 40) dX13_wayAt_22 (by decide) (fun h22 => ?_) (fun h22 => absurd hz h22)
  refine j_aload_n dX13_wayAt_40 rfl rfl ?_
  refine j_iconst (v := nI 1) dX13_wayAt_41 (by decide) ?_
  refine cV13_57 (d1 := 1) rfl dX13_wayAt_42 (by decide) (Nat.le_of_ble_eq_true rfl) ?_
  refine m_refused ?_
  refine j_iret rfl dX13_wayAt_45 ?_
  rw [e1]; exact hp
theorem mx_wayAtB1 {x y z : Int32} (hX : XM mr) (hM : MM M) (hY : XT mr M) (hTn : mr 1000 3 = some M) (hg : GB t) (hW : WT t) (hR : RM mi M t) (hb : bad x (t 0 3)) (hp : post (some (.int (-1))) (rf mi (nI 1)) ml mr dom) : CT G 3 0 0 yX13_wayAt cX13_wayAt 7 (some .int) [.ref 1000, .int x, .int y, .int z] mi ml mr dom post := by
  have w := hW.1
  have hge := hM.ge
  refine enter 3 (by decide) rfl rfl (fun X => ?_)
  refine j_aload_n dX13_wayAt_0 rfl rfl ?_
  refine j_iconst (v := nI 0) dX13_wayAt_1 (by decide) ?_
  refine pI13_51 rfl dX13_wayAt_2 ?_
  obtain ⟨m1, e1⟩ : ∃ m, m = up mi 1000 0 (nI 0) := ⟨_, rfl⟩
  rw [← e1]
  have hR1 : RM m1 M t := RM_lo hM (fun n hn => by rw [e1, up_off _ _ (by omega)]) hR
  refine j_aload_n dX13_wayAt_5 rfl rfl ?_
  refine j_iload_n dX13_wayAt_6 rfl rfl ?_
  refine cV13_352 (d1 := 1) rfl dX13_wayAt_7 (by decide) (Nat.le_of_ble_eq_true rfl) ?_
  refine m_isHouseB hX hM hY hTn hg hW hR1 hb ?_
  refine j_if_eq (tgt := 40) dX13_wayAt_10 (by decide) (fun h10 => ?_) (fun h10 => absurd (by decide) h10)
  refine j_aload_n dX13_wayAt_40 rfl rfl ?_
  refine j_iconst (v := nI 1) dX13_wayAt_41 (by decide) ?_
  refine cV13_57 (d1 := 1) rfl dX13_wayAt_42 (by decide) (Nat.le_of_ble_eq_true rfl) ?_
  refine m_refused ?_
  refine j_iret rfl dX13_wayAt_45 ?_
  rw [e1]; exact hp
theorem mx_wayAtB2 {h : Nat} {y z : Int32} (hX : XM mr) (hM : MM M) (hY : XT mr M) (hTn : mr 1000 3 = some M) (hg : GB t) (hW : WT t) (hR : RM mi M t) (h1 : h < t 0 3) (hb : bad y (t 0 3)) (hp : post (some (.int (-1))) (rf mi (nI 1)) ml mr dom) : CT G 3 0 0 yX13_wayAt cX13_wayAt 7 (some .int) [.ref 1000, .int (nI h), .int y, .int z] mi ml mr dom post := by
  have w := hW.1
  have hge := hM.ge
  refine enter 3 (by decide) rfl rfl (fun X => ?_)
  refine j_aload_n dX13_wayAt_0 rfl rfl ?_
  refine j_iconst (v := nI 0) dX13_wayAt_1 (by decide) ?_
  refine pI13_51 rfl dX13_wayAt_2 ?_
  obtain ⟨m1, e1⟩ : ∃ m, m = up mi 1000 0 (nI 0) := ⟨_, rfl⟩
  rw [← e1]
  have hR1 : RM m1 M t := RM_lo hM (fun n hn => by rw [e1, up_off _ _ (by omega)]) hR
  refine j_aload_n dX13_wayAt_5 rfl rfl ?_
  refine j_iload_n dX13_wayAt_6 rfl rfl ?_
  refine cV13_352 (d1 := 1) rfl dX13_wayAt_7 (by decide) (Nat.le_of_ble_eq_true rfl) ?_
  refine m_isHouseG hX hM hY hTn hg hW hR1 (by omega) ?_
  refine j_if_eq (tgt := 40) dX13_wayAt_10 (by decide) (fun h10 => absurd h10 (by decide)) (fun h10 => ?_)
  refine j_aload_n dX13_wayAt_13 rfl rfl ?_
  refine j_iload_n dX13_wayAt_14 rfl rfl ?_
  refine cV13_352 (d1 := 1) rfl dX13_wayAt_15 (by decide) (Nat.le_of_ble_eq_true rfl) ?_
  refine m_isHouseB hX hM hY hTn hg hW hR1 hb ?_
  refine j_if_eq (tgt := 40) dX13_wayAt_18 (by decide) (fun h18 => ?_) (fun h18 => absurd (by decide) h18)
  refine j_aload_n dX13_wayAt_40 rfl rfl ?_
  refine j_iconst (v := nI 1) dX13_wayAt_41 (by decide) ?_
  refine cV13_57 (d1 := 1) rfl dX13_wayAt_42 (by decide) (Nat.le_of_ble_eq_true rfl) ?_
  refine m_refused ?_
  refine j_iret rfl dX13_wayAt_45 ?_
  rw [e1]; exact hp
end M13w
