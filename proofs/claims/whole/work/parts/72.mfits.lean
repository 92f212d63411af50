/-! the reference: whose prints those are -/
section M13p
variable {G : GG} {post : PT} {mi : MI} {ml : ML} {mr : MR} {dom : List Nat} {M : Nat} {t : TW} {v : Nat → Nat} {row : Nat → Nat}
theorem prOk_f {k p : Nat} {j : Nat} (hj : j < k) (h1 : row j = p) (h2 : t 16 j = t 16 k) : prOk t row k p = false := by
  unfold prOk
  have : ∀ n, j < n → usd t row k p n = false := by
    intro n
    induction n with
    | zero => intro h; omega
    | succ n ih =>
      intro h
      rw [usd]
      by_cases e : j = n
      · subst e; rw [decide_eq_true h1, decide_eq_true h2]; simp
      · rw [ih (by omega)]; rfl
  rw [this k hj, Bool.and_false]
theorem usd_t {k p : Nat} : ∀ n, (∀ j, j < n → ¬ (row j = p ∧ t 16 j = t 16 k)) → usd t row k p n = true
  | 0, _ => rfl
  | n + 1, h => by
    rw [usd, usd_t n (fun j hj => h j (by omega)), Bool.true_and]
    cases q : (decide (row n = p) && decide (t 16 n = t 16 k))
    · rfl
    · rw [Bool.and_eq_true, decide_eq_true_eq, decide_eq_true_eq] at q; exact absurd q (h n (by omega))
theorem m_isPrint {k p : Nat} (hX : XM mr) (hM : MM M) (hY : XT mr M) (hTn : mr 1000 3 = some M) (hg : GB t) (hW : WT t) (hR : RM mi M t) (h1 : k < t 0 8) (h2 : p < t 0 5) (hk0 : mi 1011 k = nI p) (hrow : ∀ j, j < k → mi 1011 j = nI (row j) ∧ row j < 6) (hp : post (some (.int (nI (bN (prOk t row k p))))) mi ml mr dom) : CT G 2 0 0 yX13_isPrint cX13_isPrint 4 (some .boolean) [.ref 1000, .int (nI k)] mi ml mr dom post := by
  have w := hW.1
  have hge := hM.ge
  refine enter 2 (by decide) rfl rfl (fun X => ?_)
  refine j_aload_n dX13_isPrint_0 rfl rfl ?_
  refine gR13_45 rfl dX13_isPrint_1 (x1011 hX) ?_
  refine j_iload_n dX13_isPrint_4 rfl rfl ?_
  refine j_iald rfl (inT (show ln 1011 = 5 from rfl) (by show k < 5; omega) (by decide)) dX13_isPrint_5 ?_
  rw [nI_clamp (by omega), hk0]
  refine j_istore_n (lv2 := [_, _, _, _]) dX13_isPrint_6 rfl (by decide) rfl rfl ?_
  refine j_aload_n dX13_isPrint_7 rfl rfl ?_
  refine gR13_335 rfl dX13_isPrint_8 hTn ?_
  refine gR13_278 (kM0 hM) dX13_isPrint_11 (xM4 hY) ?_
  refine j_iload_n dX13_isPrint_14 rfl rfl ?_
  refine j_iald (kM4 hM) (inT (lM4 hM) (by show p < 6; omega) (by decide)) dX13_isPrint_15 ?_
  rw [nI_clamp (by omega), rM4 hR (by show p < 6; omega)]
  refine j_iconst (v := nI 2) dX13_isPrint_16 (by decide) ?_
  refine j_icmp_eq (tgt := 61) dX13_isPrint_17 (by decide) (fun h17 => ?_) (fun h17 => ?_)
  all_goals rw [nI_eq (by have := hg 4 p; omega) (by omega)] at h17
  · refine j_iconst (v := nI 0) dX13_isPrint_61 (by decide) ?_
    refine j_zret rfl (by decide) dX13_isPrint_62 ?_
    rw [show prOk t row k p = false from ?_] at hp
    · exact hp
    · unfold prOk sut
      first
        | (rw [decide_eq_false (p := t 4 p ≠ 2) (by omega)]; rfl)
        | (rw [decide_eq_false (p := t 5 p ≠ t 14 k) (by omega)]; simp)
        | (rw [decide_eq_false (p := 4 * t 7 (5 * p + 3) + t 7 (5 * p + 4) = t 15 k) (by omega)]; simp)
  · refine j_aload_n dX13_isPrint_20 rfl rfl ?_
    refine gR13_335 rfl dX13_isPrint_21 hTn ?_
    refine gR13_281 (kM0 hM) dX13_isPrint_24 (xM5 hY) ?_
    refine j_iload_n dX13_isPrint_27 rfl rfl ?_
    refine j_iald (kM5 hM) (inT (lM5 hM) (by show p < 6; omega) (by decide)) dX13_isPrint_28 ?_
    rw [nI_clamp (by omega), rM5 hR (by show p < 6; omega)]
    refine j_aload_n dX13_isPrint_29 rfl rfl ?_
    refine gR13_335 rfl dX13_isPrint_30 hTn ?_
    refine gR13_321 (kM0 hM) dX13_isPrint_33 (xM14 hY) ?_
    refine j_iload_n dX13_isPrint_36 rfl rfl ?_
    refine j_iald (kM14 hM) (inT (lM14 hM) (by show k < 5; omega) (by decide)) dX13_isPrint_37 ?_
    rw [nI_clamp (by omega), rM14 hR (by show k < 5; omega)]
    refine j_icmp_eq (tgt := 61) dX13_isPrint_38 (by decide) (fun h38 => ?_) (fun h38 => ?_)
    all_goals rw [nI_eq (by have := hg 5 p; omega) (by have := hg 14 k; omega)] at h38
    · refine j_iconst (v := nI 0) dX13_isPrint_61 (by decide) ?_
      refine j_zret rfl (by decide) dX13_isPrint_62 ?_
      rw [show prOk t row k p = false from ?_] at hp
      · exact hp
      · unfold prOk sut
        first
          | (rw [decide_eq_false (p := t 4 p ≠ 2) (by omega)]; rfl)
          | (rw [decide_eq_false (p := t 5 p ≠ t 14 k) (by omega)]; simp)
          | (rw [decide_eq_false (p := 4 * t 7 (5 * p + 3) + t 7 (5 * p + 4) = t 15 k) (by omega)]; simp)
    · refine j_aload_n dX13_isPrint_41 rfl rfl ?_
      refine gR13_335 rfl dX13_isPrint_42 hTn ?_
      refine j_iload_n dX13_isPrint_45 rfl rfl ?_
      refine cV13_446 (d1 := 1) (kM0 hM) dX13_isPrint_46 (by decide) (Nat.le_of_ble_eq_true rfl) ?_
      refine m_feet hM hY hg hW hR (by omega) ?_
      refine j_aload_n dX13_isPrint_49 rfl rfl ?_
      refine gR13_335 rfl dX13_isPrint_50 hTn ?_
      refine gR13_324 (kM0 hM) dX13_isPrint_53 (xM15 hY) ?_
      refine j_iload_n dX13_isPrint_56 rfl rfl ?_
      refine j_iald (kM15 hM) (inT (lM15 hM) (by show k < 5; omega) (by decide)) dX13_isPrint_57 ?_
      rw [nI_clamp (by omega), rM15 hR (by show k < 5; omega)]
      refine j_icmp_eq (tgt := 63) dX13_isPrint_58 (by decide) (fun h58 => ?_) (fun h58 => ?_)
      all_goals rw [nI_eq (by have := hg 7 (5 * p + 3 + 1); have := hg 7 (5 * p + 3); omega) (by have := hg 15 k; omega)] at h58
      · refine j_iconst (v := nI 0) dX13_isPrint_63 (by decide) ?_
        refine j_istore_n (lv2 := [_, _, _, _]) dX13_isPrint_64 rfl (by decide) rfl rfl ?_
        have hsu : sut t p k = true := by
          unfold sut
          rw [decide_eq_true (show t 4 p ≠ 2 by omega), decide_eq_true (show 4 * t 7 (5 * p + 3) + t 7 (5 * p + 4) = t 15 k by omega), decide_eq_true (show t 5 p ≠ t 14 k by omega)]; rfl
        refine lp (n := k) (H := fun j => J cX13_isPrint 4 yX13_isPrint.cls yX13_isPrint.name (some .boolean) 2 G X post 0 0 mi ml mr dom 65 [some (.ref 1000), some (.int (nI k)), some (.int (nI p)), some (.int (nI j))] []) (Q := fun j => ∀ x, x < j → ¬ (row x = p ∧ t 16 x = t 16 k)) (fun hq => ?_) (fun j hj hq ih => ?_) (fun x hx => absurd hx (by omega))
        · skip
          refine j_iload_n dX13_isPrint_65 rfl rfl ?_
          refine j_iload_n dX13_isPrint_66 rfl rfl ?_
          refine j_icmp_ge (tgt := 109) dX13_isPrint_67 (by decide) (fun h67 => ?_) (fun h67 => by exfalso; rw [nI_leI (by omega) (by omega)] at h67; omega)
          refine j_iconst (v := nI 1) dX13_isPrint_109 (by decide) ?_
          refine j_zret rfl (by decide) dX13_isPrint_110 ?_
          rw [show prOk t row k p = true from ?_] at hp
          · exact hp
          · unfold prOk
            rw [usd_t k (fun j hj y => hq j hj y), hsu]; rfl
        · skip
          refine j_iload_n dX13_isPrint_65 rfl rfl ?_
          refine j_iload_n dX13_isPrint_66 rfl rfl ?_
          refine j_icmp_ge (tgt := 109) dX13_isPrint_67 (by decide) (fun h67 => by exfalso; rw [nI_leI (by omega) (by omega)] at h67; omega) (fun h67 => ?_)
          refine j_aload_n dX13_isPrint_70 rfl rfl ?_
          refine gR13_45 rfl dX13_isPrint_71 (x1011 hX) ?_
          refine j_iload_n dX13_isPrint_74 rfl rfl ?_
          refine j_iald rfl (inT (show ln 1011 = 5 from rfl) (by show j < 5; omega) (by decide)) dX13_isPrint_75 ?_
          rw [nI_clamp (by omega), (hrow j (by omega)).1]
          refine j_iload_n dX13_isPrint_76 rfl rfl ?_
          refine j_icmp_ne (tgt := 103) dX13_isPrint_77 (by decide) (fun h77 => ?_) (fun h77 => ?_)
          all_goals rw [nI_eq (by have := (hrow j (by omega)).2; omega) (by omega)] at h77
          · refine j_iinc1 (lv2 := [_, _, _, _]) dX13_isPrint_103 rfl (by decide) rfl rfl ?_
            rw [nI_1]
            refine j_goto (tgt := 65) dX13_isPrint_106 (by decide) ?_
            exact ih (fun x hx => by
              by_cases e : x = j
              · subst e; intro y; omega
              · exact hq x (by omega))
          · refine j_aload_n dX13_isPrint_80 rfl rfl ?_
            refine gR13_335 rfl dX13_isPrint_81 hTn ?_
            refine gR13_326 (kM0 hM) dX13_isPrint_84 (xM16 hY) ?_
            refine j_iload_n dX13_isPrint_87 rfl rfl ?_
            refine j_iald (kM16 hM) (inT (lM16 hM) (by show j < 5; omega) (by decide)) dX13_isPrint_88 ?_
            rw [nI_clamp (by omega), rM16 hR (by show j < 5; omega)]
            refine j_aload_n dX13_isPrint_89 rfl rfl ?_
            refine gR13_335 rfl dX13_isPrint_90 hTn ?_
            refine gR13_326 (kM0 hM) dX13_isPrint_93 (xM16 hY) ?_
            refine j_iload_n dX13_isPrint_96 rfl rfl ?_
            refine j_iald (kM16 hM) (inT (lM16 hM) (by show k < 5; omega) (by decide)) dX13_isPrint_97 ?_
            rw [nI_clamp (by omega), rM16 hR (by show k < 5; omega)]
            refine j_icmp_ne (tgt := 103) dX13_isPrint_98 (by decide) (fun h98 => ?_) (fun h98 => ?_)
            all_goals rw [nI_eq (by have := hg 16 j; omega) (by have := hg 16 k; omega)] at h98
            · refine j_iinc1 (lv2 := [_, _, _, _]) dX13_isPrint_103 rfl (by decide) rfl rfl ?_
              rw [nI_1]
              refine j_goto (tgt := 65) dX13_isPrint_106 (by decide) ?_
              exact ih (fun x hx => by
                by_cases e : x = j
                · subst e; intro y; omega
                · exact hq x (by omega))
            · refine j_iconst (v := nI 0) dX13_isPrint_101 (by decide) ?_
              refine j_zret rfl (by decide) dX13_isPrint_102 ?_
              rw [prOk_f hj (show row j = p by omega) (by omega)] at hp
              exact hp
      · refine j_iconst (v := nI 0) dX13_isPrint_61 (by decide) ?_
        refine j_zret rfl (by decide) dX13_isPrint_62 ?_
        rw [show prOk t row k p = false from ?_] at hp
        · exact hp
        · unfold prOk sut
          first
            | (rw [decide_eq_false (p := t 4 p ≠ 2) (by omega)]; rfl)
            | (rw [decide_eq_false (p := t 5 p ≠ t 14 k) (by omega)]; simp)
            | (rw [decide_eq_false (p := 4 * t 7 (5 * p + 3) + t 7 (5 * p + 4) = t 15 k) (by omega)]; simp)
theorem m_fitting (hX : XM mr) (hM : MM M) (hY : XT mr M) (hTn : mr 1000 3 = some M) (hg : GB t) (hW : WT t) (hR : RM mi M t) (hP : 0 < t 0 8) (hp : ∀ m : MI, (∀ z, z ≠ 1000 → z ≠ 1011 → z ≠ 1012 → m z = mi z) → (∀ j, j ≠ 30 → m 1000 j = mi 1000 j) → m 1000 30 = nI (pro (nrk t) (t 0 8)) → (∀ k p, k < t 0 8 → p < t 0 5 → m 1012 (6 * k + p) = nI (wfK t (t 0 8) (6 * k + p))) → post none m ml mr dom) : CT G 3 0 0 yX13_fitting cX13_fitting 3 none [.ref 1000] mi ml mr dom post := by
  have w := hW.1
  have hge := hM.ge
  refine enter 2 (by decide) rfl rfl (fun X => ?_)
  have keyM : ∀ m : MI, (∀ z, z ≠ 1000 → z ≠ 1011 → z ≠ 1012 → m z = mi z) → (∀ j, j ≠ 30 → m 1000 j = mi 1000 j) → m 1000 30 = nI ((0, r0) : SF).1 → (∀ i, i < 30 → m 1012 i = nI (((0, r0) : SF).2 i)) → m 1011 0 = nI 0 → (∀ j, j < 0 → m 1011 j = nI (r0 j) ∧ r0 j < t 0 5) → 0 ≤ t 0 5 → ∀ z : Option Value, J cX13_fitting 3 yX13_fitting.cls yX13_fitting.name none 3 G X post 0 0 m ml mr dom 49 [some (.ref 1000), some (.int (nI 0)), z] [] := by
    refine fitL (t := t) (Mid := fun k row p S => ∀ m : MI, (∀ z, z ≠ 1000 → z ≠ 1011 → z ≠ 1012 → m z = mi z) → (∀ j, j ≠ 30 → m 1000 j = mi 1000 j) → m 1000 30 = nI S.1 → (∀ i, i < 30 → m 1012 i = nI (S.2 i)) → m 1011 k = nI p → (∀ j, j < k → m 1011 j = nI (row j) ∧ row j < t 0 5) → p ≤ t 0 5 → ∀ z : Option Value, J cX13_fitting 3 yX13_fitting.cls yX13_fitting.name none 3 G X post 0 0 m ml mr dom 49 [some (.ref 1000), some (.int (nI k)), z] []) (X := fun S => ∀ m : MI, (∀ z, z ≠ 1000 → z ≠ 1011 → z ≠ 1012 → m z = mi z) → (∀ j, j ≠ 30 → m 1000 j = mi 1000 j) → m 1000 30 = nI S.1 → (∀ i, i < 30 → m 1012 i = nI (S.2 i)) → post none m ml mr dom) (fun k row row' p S hrr hx m hm hJ hS1 hS2 hk hr hp5 z => hx m hm hJ hS1 hS2 hk (fun j hj => by rw [hrr j hj]; exact hr j hj) hp5 z) (fun row S hx m hm hJ hS1 hS2 hk hr hp5 z => ?_) (fun k row S hk8 hx m hm hJ hS1 hS2 hk hr hp5 z => ?_) (fun k row p S hk8 hpp hc hx m hm hJ hS1 hS2 hk hr hp5 z => ?_) (fun k row p S hk8 hpp hc hx m hm hJ hS1 hS2 hk hr hp5 z => ?_) (fun k row p S hk8 hpp hc hx m hm hJ hS1 hS2 hk hr hp5 z => ?_) (t 0 8 - 1) 0 (by omega) (t 0 5) r0 0 ((0, r0) : SF) (Nat.zero_add _) (fun F hF => ⟨fun _ m hm hJ hS1 hS2 => ?_, fun k' q => absurd q (by omega)⟩)
    · have hRm : RM m M t := RM_lo hM (fun n hn => by rw [hm n (by omega) (by omega) (by omega)]) hR
      refine j_aload_n dX13_fitting_49 rfl rfl ?_
      refine gR13_45 rfl dX13_fitting_50 (x1011 hX) ?_
      refine j_iload_n dX13_fitting_53 rfl rfl ?_
      refine j_iald rfl (inT (show ln 1011 = 5 from rfl) (by show 0 < 5; omega) (by decide)) dX13_fitting_54 ?_
      rw [nI_clamp (by omega), hk]
      refine j_aload_n dX13_fitting_55 rfl rfl ?_
      refine gR13_335 rfl dX13_fitting_56 hTn ?_
      refine gI13_199 (kM0 hM) dX13_fitting_59 ?_
      rw [hRm.1 5 (by decide)]
      refine j_icmp_ge (tgt := 86) dX13_fitting_62 (by decide) (fun h62 => ?_) (fun h62 => by exfalso; rw [nI_leI (by have := hg 0 5; omega) (by omega)] at h62; have := hg 0 5; omega)
      refine j_aload_n dX13_fitting_86 rfl rfl ?_
      refine gR13_45 rfl dX13_fitting_87 (x1011 hX) ?_
      refine j_iload_n dX13_fitting_90 rfl rfl ?_
      refine j_iald rfl (inT (show ln 1011 = 5 from rfl) (by show 0 < 5; omega) (by decide)) dX13_fitting_91 ?_
      rw [nI_clamp (by omega), hk]
      refine j_aload_n dX13_fitting_92 rfl rfl ?_
      refine gR13_335 rfl dX13_fitting_93 hTn ?_
      refine gI13_199 (kM0 hM) dX13_fitting_96 ?_
      rw [hRm.1 5 (by decide)]
      refine j_icmp_lt (tgt := 108) dX13_fitting_99 (by decide) (fun h99 => by exfalso; rw [nI_ltI (by omega) (by have := hg 0 5; omega)] at h99; have := hg 0 5; omega) (fun h99 => ?_)
      refine j_iincm (lv2 := [_, _, _]) dX13_fitting_102 rfl (by decide) rfl rfl ?_
      rw [show nI 0 - 1 = (-1 : Int32) from rfl]
      refine j_goto (tgt := 35) dX13_fitting_105 (by decide) ?_
      refine j_iload_n dX13_fitting_35 rfl rfl ?_
      refine j_if_lt (tgt := 186) dX13_fitting_36 (by decide) (fun h36 => ?_) (fun h36 => absurd (by decide) h36)
      refine j_vret rfl dX13_fitting_186 ?_
      exact hx m hm hJ hS1 hS2
    · have hRm : RM m M t := RM_lo hM (fun n hn => by rw [hm n (by omega) (by omega) (by omega)]) hR
      refine j_aload_n dX13_fitting_49 rfl rfl ?_
      refine gR13_45 rfl dX13_fitting_50 (x1011 hX) ?_
      refine j_iload_n dX13_fitting_53 rfl rfl ?_
      refine j_iald rfl (inT (show ln 1011 = 5 from rfl) (by show k + 1 < 5; omega) (by decide)) dX13_fitting_54 ?_
      rw [nI_clamp (by omega), hk]
      refine j_aload_n dX13_fitting_55 rfl rfl ?_
      refine gR13_335 rfl dX13_fitting_56 hTn ?_
      refine gI13_199 (kM0 hM) dX13_fitting_59 ?_
      rw [hRm.1 5 (by decide)]
      refine j_icmp_ge (tgt := 86) dX13_fitting_62 (by decide) (fun h62 => ?_) (fun h62 => by exfalso; rw [nI_leI (by have := hg 0 5; omega) (by omega)] at h62; have := hg 0 5; omega)
      refine j_aload_n dX13_fitting_86 rfl rfl ?_
      refine gR13_45 rfl dX13_fitting_87 (x1011 hX) ?_
      refine j_iload_n dX13_fitting_90 rfl rfl ?_
      refine j_iald rfl (inT (show ln 1011 = 5 from rfl) (by show k + 1 < 5; omega) (by decide)) dX13_fitting_91 ?_
      rw [nI_clamp (by omega), hk]
      refine j_aload_n dX13_fitting_92 rfl rfl ?_
      refine gR13_335 rfl dX13_fitting_93 hTn ?_
      refine gI13_199 (kM0 hM) dX13_fitting_96 ?_
      rw [hRm.1 5 (by decide)]
      refine j_icmp_lt (tgt := 108) dX13_fitting_99 (by decide) (fun h99 => by exfalso; rw [nI_ltI (by omega) (by have := hg 0 5; omega)] at h99; have := hg 0 5; omega) (fun h99 => ?_)
      refine j_iincm (lv2 := [_, _, _]) dX13_fitting_102 rfl (by decide) rfl rfl ?_
      refine j_goto (tgt := 35) dX13_fitting_105 (by decide) ?_
      rw [nI_s1]
      refine j_iload_n dX13_fitting_35 rfl rfl ?_
      refine j_if_lt (tgt := 186) dX13_fitting_36 (by decide) (fun h36 => absurd h36 (nI_pos (by omega))) (fun h36 => ?_)
      refine j_aload_n dX13_fitting_39 rfl rfl ?_
      refine gR13_45 rfl dX13_fitting_40 (x1011 hX) ?_
      refine j_iload_n dX13_fitting_43 rfl rfl ?_
      refine j_dup2 dX13_fitting_44 rfl rfl ?_
      refine j_iald rfl (inT (show ln 1011 = 5 from rfl) (by show k < 5; omega) (by decide)) dX13_fitting_45 ?_
      rw [nI_clamp (by omega), (hr k (by omega)).1]
      refine j_iconst (v := nI 1) dX13_fitting_46 (by decide) ?_
      refine j_iadd dX13_fitting_47 ?_
      rw [nI_add]
      refine j_iast rfl (inT (show ln 1011 = 5 from rfl) (by show k < 5; omega) (by decide)) dX13_fitting_48 ?_
      rw [nI_clamp (by omega)]
      refine hx _ (fun z a b c => by rw [up_off _ _ b]; exact hm z a b c) (fun j hj => by rw [up_off _ _ (by decide)]; exact hJ j hj) (by rw [up_off _ _ (by decide)]; exact hS1) (fun i hi => by rw [up_off _ _ (by decide)]; exact hS2 i hi) ?_ (fun j hj => ?_) (by have := (hr k (by omega)).2; omega) _
      · rw [up_at]
      · rw [up_ne _ _ (by omega)]; exact hr j (by omega)
    · have hRm : RM m M t := RM_lo hM (fun n hn => by rw [hm n (by omega) (by omega) (by omega)]) hR
      refine j_aload_n dX13_fitting_49 rfl rfl ?_
      refine gR13_45 rfl dX13_fitting_50 (x1011 hX) ?_
      refine j_iload_n dX13_fitting_53 rfl rfl ?_
      refine j_iald rfl (inT (show ln 1011 = 5 from rfl) (by show k < 5; omega) (by decide)) dX13_fitting_54 ?_
      rw [nI_clamp (by omega), hk]
      refine j_aload_n dX13_fitting_55 rfl rfl ?_
      refine gR13_335 rfl dX13_fitting_56 hTn ?_
      refine gI13_199 (kM0 hM) dX13_fitting_59 ?_
      rw [hRm.1 5 (by decide)]
      refine j_icmp_ge (tgt := 86) dX13_fitting_62 (by decide) (fun h62 => by exfalso; rw [nI_leI (by have := hg 0 5; omega) (by omega)] at h62; have := hg 0 5; omega) (fun h62 => ?_)
      refine j_aload_n dX13_fitting_65 rfl rfl ?_
      refine j_iload_n dX13_fitting_66 rfl rfl ?_
      refine cV13_452 (d1 := 2) rfl dX13_fitting_67 (by decide) (Nat.le_of_ble_eq_true rfl) ?_
      refine m_isPrint (row := row) hX hM hY hTn hg hW hRm (by omega) (by omega) hk (fun j hj => ⟨(hr j hj).1, by have := (hr j hj).2; omega⟩) ?_
      rw [hc]
      rw [show nI (bN false) = nI 0 from rfl]
      refine j_if_ne (tgt := 86) dX13_fitting_70 (by decide) (fun h70 => absurd (by decide) h70) (fun h70 => ?_)
      refine j_aload_n dX13_fitting_73 rfl rfl ?_
      refine gR13_45 rfl dX13_fitting_74 (x1011 hX) ?_
      refine j_iload_n dX13_fitting_77 rfl rfl ?_
      refine j_dup2 dX13_fitting_78 rfl rfl ?_
      refine j_iald rfl (inT (show ln 1011 = 5 from rfl) (by show k < 5; omega) (by decide)) dX13_fitting_79 ?_
      rw [nI_clamp (by omega), hk]
      refine j_iconst (v := nI 1) dX13_fitting_80 (by decide) ?_
      refine j_iadd dX13_fitting_81 ?_
      rw [nI_add]
      refine j_iast rfl (inT (show ln 1011 = 5 from rfl) (by show k < 5; omega) (by decide)) dX13_fitting_82 ?_
      rw [nI_clamp (by omega)]
      refine j_goto (tgt := 49) dX13_fitting_83 (by decide) ?_
      refine hx _ (fun z a b c => by rw [up_off _ _ b]; exact hm z a b c) (fun j hj => by rw [up_off _ _ (by decide)]; exact hJ j hj) (by rw [up_off _ _ (by decide)]; exact hS1) (fun i hi => by rw [up_off _ _ (by decide)]; exact hS2 i hi) (by rw [up_at]) (fun j hj => ?_) (by omega) _
      rw [up_ne _ _ (by omega)]; exact hr j hj
    · have hRm : RM m M t := RM_lo hM (fun n hn => by rw [hm n (by omega) (by omega) (by omega)]) hR
      refine j_aload_n dX13_fitting_49 rfl rfl ?_
      refine gR13_45 rfl dX13_fitting_50 (x1011 hX) ?_
      refine j_iload_n dX13_fitting_53 rfl rfl ?_
      refine j_iald rfl (inT (show ln 1011 = 5 from rfl) (by show k < 5; omega) (by decide)) dX13_fitting_54 ?_
      rw [nI_clamp (by omega), hk]
      refine j_aload_n dX13_fitting_55 rfl rfl ?_
      refine gR13_335 rfl dX13_fitting_56 hTn ?_
      refine gI13_199 (kM0 hM) dX13_fitting_59 ?_
      rw [hRm.1 5 (by decide)]
      refine j_icmp_ge (tgt := 86) dX13_fitting_62 (by decide) (fun h62 => by exfalso; rw [nI_leI (by have := hg 0 5; omega) (by omega)] at h62; have := hg 0 5; omega) (fun h62 => ?_)
      refine j_aload_n dX13_fitting_65 rfl rfl ?_
      refine j_iload_n dX13_fitting_66 rfl rfl ?_
      refine cV13_452 (d1 := 2) rfl dX13_fitting_67 (by decide) (Nat.le_of_ble_eq_true rfl) ?_
      refine m_isPrint (row := row) hX hM hY hTn hg hW hRm (by omega) (by omega) hk (fun j hj => ⟨(hr j hj).1, by have := (hr j hj).2; omega⟩) ?_
      rw [hc]
      rw [show nI (bN true) = nI 1 from rfl]
      refine j_if_ne (tgt := 86) dX13_fitting_70 (by decide) (fun h70 => ?_) (fun h70 => absurd h70 (by decide))
      refine j_aload_n dX13_fitting_86 rfl rfl ?_
      refine gR13_45 rfl dX13_fitting_87 (x1011 hX) ?_
      refine j_iload_n dX13_fitting_90 rfl rfl ?_
      refine j_iald rfl (inT (show ln 1011 = 5 from rfl) (by show k < 5; omega) (by decide)) dX13_fitting_91 ?_
      rw [nI_clamp (by omega), hk]
      refine j_aload_n dX13_fitting_92 rfl rfl ?_
      refine gR13_335 rfl dX13_fitting_93 hTn ?_
      refine gI13_199 (kM0 hM) dX13_fitting_96 ?_
      rw [hRm.1 5 (by decide)]
      refine j_icmp_lt (tgt := 108) dX13_fitting_99 (by decide) (fun h99 => ?_) (fun h99 => by exfalso; rw [nI_ltI (by omega) (by have := hg 0 5; omega)] at h99; have := hg 0 5; omega)
      refine j_iload_n dX13_fitting_108 rfl rfl ?_
      refine j_iconst (v := nI 1) dX13_fitting_109 (by decide) ?_
      refine j_iadd dX13_fitting_110 ?_
      rw [nI_add]
      refine j_aload_n dX13_fitting_111 rfl rfl ?_
      refine gR13_335 rfl dX13_fitting_112 hTn ?_
      refine gI13_316 (kM0 hM) dX13_fitting_115 ?_
      rw [hRm.1 8 (by decide)]
      refine j_icmp_ge (tgt := 134) dX13_fitting_118 (by decide) (fun h118 => by exfalso; rw [nI_leI (by have := hg 0 8; omega) (by omega)] at h118; have := hg 0 8; omega) (fun h118 => ?_)
      refine j_iinc1 (lv2 := [_, _, _]) dX13_fitting_121 rfl (by decide) rfl rfl ?_
      rw [nI_1]
      refine j_aload_n dX13_fitting_124 rfl rfl ?_
      refine gR13_45 rfl dX13_fitting_125 (x1011 hX) ?_
      refine j_iload_n dX13_fitting_128 rfl rfl ?_
      refine j_iconst (v := -1) dX13_fitting_129 (by decide) ?_
      refine j_iast rfl (inT (show ln 1011 = 5 from rfl) (by show k + 1 < 5; omega) (by decide)) dX13_fitting_130 ?_
      rw [nI_clamp (by omega)]
      refine j_goto (tgt := 35) dX13_fitting_131 (by decide) ?_
      refine j_iload_n dX13_fitting_35 rfl rfl ?_
      refine j_if_lt (tgt := 186) dX13_fitting_36 (by decide) (fun h36 => absurd h36 (nI_pos (by omega))) (fun h36 => ?_)
      refine j_aload_n dX13_fitting_39 rfl rfl ?_
      refine gR13_45 rfl dX13_fitting_40 (x1011 hX) ?_
      refine j_iload_n dX13_fitting_43 rfl rfl ?_
      refine j_dup2 dX13_fitting_44 rfl rfl ?_
      refine j_iald rfl (inT (show ln 1011 = 5 from rfl) (by show k + 1 < 5; omega) (by decide)) dX13_fitting_45 ?_
      rw [nI_clamp (by omega), up_at]
      refine j_iconst (v := nI 1) dX13_fitting_46 (by decide) ?_
      refine j_iadd dX13_fitting_47 ?_
      refine j_iast rfl (inT (show ln 1011 = 5 from rfl) (by show k + 1 < 5; omega) (by decide)) dX13_fitting_48 ?_
      rw [nI_clamp (by omega), show (-1 : Int32) + nI 1 = nI 0 from rfl]
      refine hx _ (fun z a b c => by rw [up_off _ _ b, up_off _ _ b]; exact hm z a b c) (fun j hj => by rw [up_off _ _ (by decide), up_off _ _ (by decide)]; exact hJ j hj) (by rw [up_off _ _ (by decide), up_off _ _ (by decide)]; exact hS1) (fun i hi => by rw [up_off _ _ (by decide), up_off _ _ (by decide)]; exact hS2 i hi) (by rw [up_at]) (fun j hj => ?_) (Nat.zero_le _) _
      rw [up_ne _ _ (by omega), up_ne _ _ (by omega)]
      by_cases e : j = k
      · subst e; rw [upN_at]; exact ⟨hk, by omega⟩
      · rw [upN_ne _ e]; exact hr j (by omega)
    · have hRm : RM m M t := RM_lo hM (fun n hn => by rw [hm n (by omega) (by omega) (by omega)]) hR
      refine j_aload_n dX13_fitting_49 rfl rfl ?_
      refine gR13_45 rfl dX13_fitting_50 (x1011 hX) ?_
      refine j_iload_n dX13_fitting_53 rfl rfl ?_
      refine j_iald rfl (inT (show ln 1011 = 5 from rfl) (by show k < 5; omega) (by decide)) dX13_fitting_54 ?_
      rw [nI_clamp (by omega), hk]
      refine j_aload_n dX13_fitting_55 rfl rfl ?_
      refine gR13_335 rfl dX13_fitting_56 hTn ?_
      refine gI13_199 (kM0 hM) dX13_fitting_59 ?_
      rw [hRm.1 5 (by decide)]
      refine j_icmp_ge (tgt := 86) dX13_fitting_62 (by decide) (fun h62 => by exfalso; rw [nI_leI (by have := hg 0 5; omega) (by omega)] at h62; have := hg 0 5; omega) (fun h62 => ?_)
      refine j_aload_n dX13_fitting_65 rfl rfl ?_
      refine j_iload_n dX13_fitting_66 rfl rfl ?_
      refine cV13_452 (d1 := 2) rfl dX13_fitting_67 (by decide) (Nat.le_of_ble_eq_true rfl) ?_
      refine m_isPrint (row := row) hX hM hY hTn hg hW hRm (by omega) (by omega) hk (fun j hj => ⟨(hr j hj).1, by have := (hr j hj).2; omega⟩) ?_
      rw [hc]
      rw [show nI (bN true) = nI 1 from rfl]
      refine j_if_ne (tgt := 86) dX13_fitting_70 (by decide) (fun h70 => ?_) (fun h70 => absurd h70 (by decide))
      refine j_aload_n dX13_fitting_86 rfl rfl ?_
      refine gR13_45 rfl dX13_fitting_87 (x1011 hX) ?_
      refine j_iload_n dX13_fitting_90 rfl rfl ?_
      refine j_iald rfl (inT (show ln 1011 = 5 from rfl) (by show k < 5; omega) (by decide)) dX13_fitting_91 ?_
      rw [nI_clamp (by omega), hk]
      refine j_aload_n dX13_fitting_92 rfl rfl ?_
      refine gR13_335 rfl dX13_fitting_93 hTn ?_
      refine gI13_199 (kM0 hM) dX13_fitting_96 ?_
      rw [hRm.1 5 (by decide)]
      refine j_icmp_lt (tgt := 108) dX13_fitting_99 (by decide) (fun h99 => ?_) (fun h99 => by exfalso; rw [nI_ltI (by omega) (by have := hg 0 5; omega)] at h99; have := hg 0 5; omega)
      refine j_iload_n dX13_fitting_108 rfl rfl ?_
      refine j_iconst (v := nI 1) dX13_fitting_109 (by decide) ?_
      refine j_iadd dX13_fitting_110 ?_
      rw [nI_add]
      refine j_aload_n dX13_fitting_111 rfl rfl ?_
      refine gR13_335 rfl dX13_fitting_112 hTn ?_
      refine gI13_316 (kM0 hM) dX13_fitting_115 ?_
      rw [hRm.1 8 (by decide)]
      refine j_icmp_ge (tgt := 134) dX13_fitting_118 (by decide) (fun h118 => ?_) (fun h118 => by exfalso; rw [nI_leI (by have := hg 0 8; omega) (by omega)] at h118; have := hg 0 8; omega)
      refine j_aload_n dX13_fitting_134 rfl rfl ?_
      refine j_dup dX13_fitting_135 rfl ?_
      refine gI13_449 rfl dX13_fitting_136 ?_
      rw [hS1]
      refine j_iconst (v := nI 1) dX13_fitting_139 (by decide) ?_
      refine j_iadd dX13_fitting_140 ?_
      rw [nI_add]
      refine pI13_449 rfl dX13_fitting_141 ?_
      refine j_iconst (v := nI 0) dX13_fitting_144 (by decide) ?_
      refine j_istore_n (lv2 := [_, _, _]) dX13_fitting_145 rfl (by decide) rfl rfl ?_
      have hrw : ∀ j, j < t 0 8 → m 1011 j = nI ((upN row k p) j) ∧ (upN row k p) j < 6 := fun j hj => by
        by_cases e : j = k
        · subst e; rw [upN_at]; exact ⟨hk, by omega⟩
        · rw [upN_ne _ e]; have := hr j (by omega); exact ⟨this.1, by omega⟩
      refine fl (σ := Nat → Nat) (n := t 0 8) (s0 := S.2) (I := fun _ => True) (F := (fun j c => upN c (6 * j + (upN row k p) j) (c (6 * j + (upN row k p) j) + 1))) (H := fun j c => ∀ m2 : MI, off1 1012 m2 (up m 1000 30 (nI (S.1 + 1))) → (∀ i, i < 30 → m2 1012 i = nI (c i)) → J cX13_fitting 3 yX13_fitting.cls yX13_fitting.name none 3 G X post 0 0 m2 ml mr dom 146 [some (.ref 1000), some (.int (nI k)), some (.int (nI j))] []) trivial (fun _ _ _ => trivial) (fun j hj c _ ihj m2 hm2 hc2 => ?_) (fun m2 hm2 hc2 => ?_) _ (fun _ _ => rfl) (fun i hi => by rw [up_off _ _ (by decide)]; exact hS2 i hi)
      · skip
        refine j_iload_n dX13_fitting_146 rfl rfl ?_
        refine j_aload_n dX13_fitting_147 rfl rfl ?_
        refine gR13_335 rfl dX13_fitting_148 hTn ?_
        refine gI13_316 (kM0 hM) dX13_fitting_151 ?_
        rw [hm2 M (by omega), up_off _ _ (by omega), hRm.1 8 (by decide)]
        refine j_icmp_ge (tgt := 183) dX13_fitting_154 (by decide) (fun h154 => by exfalso; rw [nI_leI (by have := hg 0 8; omega) (by omega)] at h154; have := hg 0 8; omega) (fun h154 => ?_)
        refine j_aload_n dX13_fitting_157 rfl rfl ?_
        refine gR13_48 rfl dX13_fitting_158 (x1012 hX) ?_
        refine j_bipush (v := nI 6) dX13_fitting_161 (by decide) ?_
        refine j_iload_n dX13_fitting_163 rfl rfl ?_
        refine j_imul dX13_fitting_164 ?_
        rw [pk_mul]
        refine j_aload_n dX13_fitting_165 rfl rfl ?_
        refine gR13_45 rfl dX13_fitting_166 (x1011 hX) ?_
        refine j_iload_n dX13_fitting_169 rfl rfl ?_
        refine j_iald rfl (inT (show ln 1011 = 5 from rfl) (by show j < 5; omega) (by decide)) dX13_fitting_170 ?_
        rw [nI_clamp (by omega), hm2 1011 (by decide), up_off _ _ (by decide), (hrw j (by omega)).1]
        refine j_iadd dX13_fitting_171 ?_
        rw [nI_add]
        refine j_dup2 dX13_fitting_172 rfl rfl ?_
        refine j_iald rfl (inT (show ln 1012 = 30 from rfl) (by have := (hrw j (by omega)).2; omega) (by decide)) dX13_fitting_173 ?_
        rw [nI_clamp (by have := (hrw j (by omega)).2; omega), hc2 _ (by have := (hrw j (by omega)).2; omega)]
        refine j_iconst (v := nI 1) dX13_fitting_174 (by decide) ?_
        refine j_iadd dX13_fitting_175 ?_
        rw [nI_add]
        refine j_iast rfl (inT (show ln 1012 = 30 from rfl) (by have := (hrw j (by omega)).2; omega) (by decide)) dX13_fitting_176 ?_
        rw [nI_clamp (by have := (hrw j (by omega)).2; omega)]
        refine j_iinc1 (lv2 := [_, _, _]) dX13_fitting_177 rfl (by decide) rfl rfl ?_
        rw [nI_1]
        refine j_goto (tgt := 146) dX13_fitting_180 (by decide) ?_
        refine ihj _ (fun z hz => by rw [up_off _ _ hz]; exact hm2 z hz) (fun i hi => ?_)
        by_cases e : i = 6 * j + (upN row k p) j
        · subst e; rw [up_at, upN_at]
        · rw [up_ne _ _ e, upN_ne _ e]; exact hc2 i hi
      · skip
        refine j_iload_n dX13_fitting_146 rfl rfl ?_
        refine j_aload_n dX13_fitting_147 rfl rfl ?_
        refine gR13_335 rfl dX13_fitting_148 hTn ?_
        refine gI13_316 (kM0 hM) dX13_fitting_151 ?_
        rw [hm2 M (by omega), up_off _ _ (by omega), hRm.1 8 (by decide)]
        refine j_icmp_ge (tgt := 183) dX13_fitting_154 (by decide) (fun h154 => ?_) (fun h154 => by exfalso; rw [nI_leI (by have := hg 0 8; omega) (by have := hg 0 8; omega)] at h154; have := hg 0 8; omega)
        refine j_goto (tgt := 35) dX13_fitting_183 (by decide) ?_
        refine j_iload_n dX13_fitting_35 rfl rfl ?_
        refine j_if_lt (tgt := 186) dX13_fitting_36 (by decide) (fun h36 => absurd h36 (nI_pos (by omega))) (fun h36 => ?_)
        refine j_aload_n dX13_fitting_39 rfl rfl ?_
        refine gR13_45 rfl dX13_fitting_40 (x1011 hX) ?_
        refine j_iload_n dX13_fitting_43 rfl rfl ?_
        refine j_dup2 dX13_fitting_44 rfl rfl ?_
        refine j_iald rfl (inT (show ln 1011 = 5 from rfl) (by show k < 5; omega) (by decide)) dX13_fitting_45 ?_
        rw [nI_clamp (by omega), hm2 1011 (by decide), up_off _ _ (by decide), hk]
        refine j_iconst (v := nI 1) dX13_fitting_46 (by decide) ?_
        refine j_iadd dX13_fitting_47 ?_
        rw [nI_add]
        refine j_iast rfl (inT (show ln 1011 = 5 from rfl) (by show k < 5; omega) (by decide)) dX13_fitting_48 ?_
        rw [nI_clamp (by omega)]
        refine hx _ (fun z a b c => by rw [up_off _ _ b, hm2 z c, up_off _ _ a]; exact hm z a b c) (fun j hj => by rw [up_off _ _ (by decide), hm2 1000 (by decide), up_ne _ _ hj]; exact hJ j hj) (by rw [up_off _ _ (by decide), hm2 1000 (by decide), up_at]; rfl) (fun i hi => by rw [up_off _ _ (by decide)]; exact hc2 i hi) (by rw [up_at]) (fun j hj => ?_) (by omega) _
        rw [up_ne _ _ (by omega), hm2 1011 (by decide), up_off _ _ (by decide)]; exact hr j hj
    · have e : fr F (t 0 5) 0 ((0, r0) : SF) = fE t (t 0 8) 0 r0 (0, r0) := by
        rw [hF, show t 0 8 = (t 0 8 - 1) + 1 by omega]; rfl
      rw [e] at hS1 hS2
      obtain ⟨q1, q2⟩ := fE_end hW
      refine hp m hm hJ (by rw [hS1, q1]) (fun k p hk hp5 => ?_)
      rw [hS2 _ (by omega), q2 k p hk hp5]
  refine j_aload_n dX13_fitting_0 rfl rfl ?_
  refine j_iconst (v := nI 0) dX13_fitting_1 (by decide) ?_
  refine pI13_449 rfl dX13_fitting_2 ?_
  obtain ⟨m1, em1⟩ : ∃ m1, m1 = up mi 1000 30 (nI 0) := ⟨_, rfl⟩
  rw [← em1]
  refine j_iconst (v := nI 0) dX13_fitting_5 (by decide) ?_
  refine j_istore_n (lv2 := [_, _, _]) dX13_fitting_6 rfl (by decide) rfl rfl ?_
  skip
  have keyz : ∀ m : MI, off1 1012 m m1 → (∀ x, x < 0 → m 1012 x = nI 0) → J cX13_fitting 3 yX13_fitting.cls yX13_fitting.name none 3 G X post 0 0 m ml mr dom 7 [some (.ref 1000), some (.int (nI 0)), none] [] := by
    refine lq (n := 30) (H := fun i => ∀ m : MI, off1 1012 m m1 → (∀ x, x < i → m 1012 x = nI 0) → J cX13_fitting 3 yX13_fitting.cls yX13_fitting.name none 3 G X post 0 0 m ml mr dom 7 [some (.ref 1000), some (.int (nI i)), none] []) (fun m hz1 hz0 => ?_) (fun i hi ih m hz1 hz0 => ?_)
    · skip
      refine j_iload_n dX13_fitting_7 rfl rfl ?_
      refine j_bipush (v := nI 30) dX13_fitting_8 (by decide) ?_
      refine j_icmp_ge (tgt := 26) dX13_fitting_10 (by decide) (fun h10 => ?_) (fun h10 => by exfalso; rw [nI_leI (by omega) (by omega)] at h10; omega)
      refine j_iconst (v := nI 0) dX13_fitting_26 (by decide) ?_
      refine j_istore_n (lv2 := [_, _, _]) dX13_fitting_27 rfl (by decide) rfl rfl ?_
      refine j_aload_n dX13_fitting_28 rfl rfl ?_
      refine gR13_45 rfl dX13_fitting_29 (x1011 hX) ?_
      refine j_iconst (v := nI 0) dX13_fitting_32 (by decide) ?_
      refine j_iconst (v := -1) dX13_fitting_33 (by decide) ?_
      refine j_iast rfl (inT (show ln 1011 = 5 from rfl) (show 0 < 5 by decide) (by decide)) dX13_fitting_34 ?_
      rw [nI_clamp (by decide)]
      refine j_iload_n dX13_fitting_35 rfl rfl ?_
      refine j_if_lt (tgt := 186) dX13_fitting_36 (by decide) (fun h36 => absurd h36 (by decide)) (fun h36 => ?_)
      refine j_aload_n dX13_fitting_39 rfl rfl ?_
      refine gR13_45 rfl dX13_fitting_40 (x1011 hX) ?_
      refine j_iload_n dX13_fitting_43 rfl rfl ?_
      refine j_dup2 dX13_fitting_44 rfl rfl ?_
      refine j_iald rfl (inT (show ln 1011 = 5 from rfl) (show 0 < 5 by decide) (by decide)) dX13_fitting_45 ?_
      rw [nI_clamp (by decide), up_at]
      refine j_iconst (v := nI 1) dX13_fitting_46 (by decide) ?_
      refine j_iadd dX13_fitting_47 ?_
      refine j_iast rfl (inT (show ln 1011 = 5 from rfl) (by decide) (by decide)) dX13_fitting_48 ?_
      rw [nI_clamp (by decide), show (-1 : Int32) + nI 1 = nI 0 from rfl]
      refine keyM _ (fun z a b c => by rw [up_off _ _ b, up_off _ _ b, hz1 z c, em1, up_off _ _ a]) (fun j hj => by rw [up_off _ _ (by decide), up_off _ _ (by decide), hz1 1000 (by decide), em1, up_ne _ _ hj]) (by rw [up_off _ _ (by decide), up_off _ _ (by decide), hz1 1000 (by decide), em1, up_at]) (fun i hi => by rw [up_off _ _ (by decide), up_off _ _ (by decide)]; exact hz0 i hi) (by rw [up_at]) (fun j hj => absurd hj (by omega)) (Nat.zero_le _) _
    · skip
      refine j_iload_n dX13_fitting_7 rfl rfl ?_
      refine j_bipush (v := nI 30) dX13_fitting_8 (by decide) ?_
      refine j_icmp_ge (tgt := 26) dX13_fitting_10 (by decide) (fun h10 => by exfalso; rw [nI_leI (by omega) (by omega)] at h10; omega) (fun h10 => ?_)
      refine j_aload_n dX13_fitting_13 rfl rfl ?_
      refine gR13_48 rfl dX13_fitting_14 (x1012 hX) ?_
      refine j_iload_n dX13_fitting_17 rfl rfl ?_
      refine j_iconst (v := nI 0) dX13_fitting_18 (by decide) ?_
      refine j_iast rfl (inT (show ln 1012 = 30 from rfl) (by show i < 30; omega) (by decide)) dX13_fitting_19 ?_
      rw [nI_clamp (by omega)]
      refine j_iinc1 (lv2 := [_, _, _]) dX13_fitting_20 rfl (by decide) rfl rfl ?_
      rw [nI_1]
      refine j_goto (tgt := 7) dX13_fitting_23 (by decide) ?_
      refine ih _ (fun z hz => by rw [up_off _ _ hz]; exact hz1 z hz) (fun x hx => ?_)
      by_cases e : x = i
      · subst e; rw [up_at]
      · rw [up_ne _ _ e]; exact hz0 x (by omega)
  exact keyz m1 (fun _ _ => rfl) (fun x hx => absurd hx (by omega))
theorem m_rpE (hX : XM mr) (hM : MM M) (hY : XT mr M) (hTn : mr 1000 3 = some M) (hg : GB t) (hW : WT t) (hR : RM mi M t) (h8 : t 0 8 = 0) (hp : post (some (.int (nI 6))) mi ml mr dom) : CT G 1 0 0 yX13_refusesPrints cX13_refusesPrints 1 (some .int) [.ref 1000] mi ml mr dom post := by
  refine enter 0 (by decide) rfl rfl (fun X => ?_)
  refine j_aload_n dX13_refusesPrints_0 rfl rfl ?_
  refine gR13_335 rfl dX13_refusesPrints_1 hTn ?_
  refine j_ifnonnull (tgt := 11) dX13_refusesPrints_4 (by decide) ?_
  refine j_aload_n dX13_refusesPrints_11 rfl rfl ?_
  refine gR13_335 rfl dX13_refusesPrints_12 hTn ?_
  refine gI13_316 (kM0 hM) dX13_refusesPrints_15 ?_
  rw [hR.1 8 (by decide)]
  refine j_if_ne (tgt := 26) dX13_refusesPrints_18 (by decide) (fun h18 => by exfalso; rw [show (0 : Int32) = nI 0 from rfl, nI_eq (by have := hg 0 8; omega) (by decide)] at h18; have := hg 0 8; omega) (fun h18 => ?_)
  refine j_bipush (v := nI 6) dX13_refusesPrints_21 (by decide) ?_
  refine j_goto (tgt := 27) dX13_refusesPrints_23 (by decide) ?_
  refine j_iret rfl dX13_refusesPrints_27 ?_
  exact hp
theorem m_rpG (hX : XM mr) (hM : MM M) (hY : XT mr M) (hTn : mr 1000 3 = some M) (hg : GB t) (hW : WT t) (hR : RM mi M t) (h8 : 0 < t 0 8) (hp : post (some (.int (nI 0))) mi ml mr dom) : CT G 1 0 0 yX13_refusesPrints cX13_refusesPrints 1 (some .int) [.ref 1000] mi ml mr dom post := by
  refine enter 0 (by decide) rfl rfl (fun X => ?_)
  refine j_aload_n dX13_refusesPrints_0 rfl rfl ?_
  refine gR13_335 rfl dX13_refusesPrints_1 hTn ?_
  refine j_ifnonnull (tgt := 11) dX13_refusesPrints_4 (by decide) ?_
  refine j_aload_n dX13_refusesPrints_11 rfl rfl ?_
  refine gR13_335 rfl dX13_refusesPrints_12 hTn ?_
  refine gI13_316 (kM0 hM) dX13_refusesPrints_15 ?_
  rw [hR.1 8 (by decide)]
  refine j_if_ne (tgt := 26) dX13_refusesPrints_18 (by decide) (fun h18 => ?_) (fun h18 => by exfalso; rw [show (0 : Int32) = nI 0 from rfl, nI_eq (by have := hg 0 8; omega) (by decide)] at h18; have := hg 0 8; omega)
  refine j_iconst (v := nI 0) dX13_refusesPrints_26 (by decide) ?_
  refine j_iret rfl dX13_refusesPrints_27 ?_
  exact hp
theorem m_rpN (hTn : mr 1000 3 = none) (hp : post (some (.int (nI 1))) mi ml mr dom) : CT G 1 0 0 yX13_refusesPrints cX13_refusesPrints 1 (some .int) [.ref 1000] mi ml mr dom post := by
  refine enter 0 (by decide) rfl rfl (fun X => ?_)
  refine j_aload_n dX13_refusesPrints_0 rfl rfl ?_
  refine gN13_335 rfl dX13_refusesPrints_1 hTn ?_
  refine j_ifnonnullN dX13_refusesPrints_4 ?_
  refine j_iconst (v := nI 1) dX13_refusesPrints_7 (by decide) ?_
  refine j_goto (tgt := 27) dX13_refusesPrints_8 (by decide) ?_
  refine j_iret rfl dX13_refusesPrints_27 ?_
  exact hp
theorem mx_fitsN  (hTn : mr 1000 3 = none)  (hp : post (some (.int (-1))) (rf mi (nI 1)) ml mr dom) : CT G 4 0 0 yX13_fits cX13_fits 2 (some .int) [.ref 1000] mi ml mr dom post := by
  refine enter 1 (by decide) rfl rfl (fun X => ?_)
  refine j_aload_n dX13_fits_0 rfl rfl ?_
  refine j_iconst (v := nI 0) dX13_fits_1 (by decide) ?_
  refine pI13_51 rfl dX13_fits_2 ?_
  obtain ⟨m1, e1⟩ : ∃ m, m = up mi 1000 0 (nI 0) := ⟨_, rfl⟩
  rw [← e1]
  refine j_aload_n dX13_fits_5 rfl rfl ?_
  refine cV13_455 (d1 := 1) rfl dX13_fits_6 (by decide) (Nat.le_of_ble_eq_true rfl) ?_
  refine m_rpN hTn ?_
  refine j_istore_n (lv2 := [_, _]) dX13_fits_9 rfl (by decide) rfl rfl ?_
  refine j_iload_n dX13_fits_10 rfl rfl ?_
  refine j_if_le (tgt := 20) dX13_fits_11 (by decide) (fun h11 => absurd h11 (by decide)) (fun h11 => ?_)
  refine j_aload_n dX13_fits_14 rfl rfl ?_
  refine j_iload_n dX13_fits_15 rfl rfl ?_
  refine cV13_57 (d1 := 1) rfl dX13_fits_16 (by decide) (Nat.le_of_ble_eq_true rfl) ?_
  refine m_refused ?_
  refine j_iret rfl dX13_fits_19 ?_
  rw [e1]; exact hp
theorem mx_fitsE  (hX : XM mr) (hM : MM M) (hY : XT mr M) (hTn : mr 1000 3 = some M) (hg : GB t) (hW : WT t) (hR : RM mi M t) (h8 : t 0 8 = 0) (hp : post (some (.int (-1))) (rf mi (nI 6)) ml mr dom) : CT G 4 0 0 yX13_fits cX13_fits 2 (some .int) [.ref 1000] mi ml mr dom post := by
  have w := hW.1
  have hge := hM.ge
  refine enter 1 (by decide) rfl rfl (fun X => ?_)
  refine j_aload_n dX13_fits_0 rfl rfl ?_
  refine j_iconst (v := nI 0) dX13_fits_1 (by decide) ?_
  refine pI13_51 rfl dX13_fits_2 ?_
  obtain ⟨m1, e1⟩ : ∃ m, m = up mi 1000 0 (nI 0) := ⟨_, rfl⟩
  rw [← e1]
  have hR1 : RM m1 M t := RM_lo hM (fun n hn => by rw [e1, up_off _ _ (by omega)]) hR
  refine j_aload_n dX13_fits_5 rfl rfl ?_
  refine cV13_455 (d1 := 1) rfl dX13_fits_6 (by decide) (Nat.le_of_ble_eq_true rfl) ?_
  refine m_rpE hX hM hY hTn hg hW hR1 h8 ?_
  refine j_istore_n (lv2 := [_, _]) dX13_fits_9 rfl (by decide) rfl rfl ?_
  refine j_iload_n dX13_fits_10 rfl rfl ?_
  refine j_if_le (tgt := 20) dX13_fits_11 (by decide) (fun h11 => absurd h11 (by decide)) (fun h11 => ?_)
  refine j_aload_n dX13_fits_14 rfl rfl ?_
  refine j_iload_n dX13_fits_15 rfl rfl ?_
  refine cV13_57 (d1 := 1) rfl dX13_fits_16 (by decide) (Nat.le_of_ble_eq_true rfl) ?_
  refine m_refused ?_
  refine j_iret rfl dX13_fits_19 ?_
  rw [e1]; exact hp
theorem mx_askN  (hTn : mr 1000 3 = none)  (hp : post (some (.int (-1))) (rf mi (nI 1)) ml mr dom) : CT G 4 0 0 yX13_ask cX13_ask 7 (some .int) [.ref 1000] mi ml mr dom post := by
  refine enter 6 (by decide) rfl rfl (fun X => ?_)
  refine j_aload_n dX13_ask_0 rfl rfl ?_
  refine j_iconst (v := nI 0) dX13_ask_1 (by decide) ?_
  refine pI13_51 rfl dX13_ask_2 ?_
  obtain ⟨m1, e1⟩ : ∃ m, m = up mi 1000 0 (nI 0) := ⟨_, rfl⟩
  rw [← e1]
  refine j_aload_n dX13_ask_5 rfl rfl ?_
  refine cV13_455 (d1 := 1) rfl dX13_ask_6 (by decide) (Nat.le_of_ble_eq_true rfl) ?_
  refine m_rpN hTn ?_
  refine j_istore_n (lv2 := [_, _, _, _, _, _, _]) dX13_ask_9 rfl (by decide) rfl rfl ?_
  refine j_iload_n dX13_ask_10 rfl rfl ?_
  refine j_if_le (tgt := 20) dX13_ask_11 (by decide) (fun h11 => absurd h11 (by decide)) (fun h11 => ?_)
  refine j_aload_n dX13_ask_14 rfl rfl ?_
  refine j_iload_n dX13_ask_15 rfl rfl ?_
  refine cV13_57 (d1 := 1) rfl dX13_ask_16 (by decide) (Nat.le_of_ble_eq_true rfl) ?_
  refine m_refused ?_
  refine j_iret rfl dX13_ask_19 ?_
  rw [e1]; exact hp
theorem mx_askE  (hX : XM mr) (hM : MM M) (hY : XT mr M) (hTn : mr 1000 3 = some M) (hg : GB t) (hW : WT t) (hR : RM mi M t) (h8 : t 0 8 = 0) (hp : post (some (.int (-1))) (rf mi (nI 6)) ml mr dom) : CT G 4 0 0 yX13_ask cX13_ask 7 (some .int) [.ref 1000] mi ml mr dom post := by
  have w := hW.1
  have hge := hM.ge
  refine enter 6 (by decide) rfl rfl (fun X => ?_)
  refine j_aload_n dX13_ask_0 rfl rfl ?_
  refine j_iconst (v := nI 0) dX13_ask_1 (by decide) ?_
  refine pI13_51 rfl dX13_ask_2 ?_
  obtain ⟨m1, e1⟩ : ∃ m, m = up mi 1000 0 (nI 0) := ⟨_, rfl⟩
  rw [← e1]
  have hR1 : RM m1 M t := RM_lo hM (fun n hn => by rw [e1, up_off _ _ (by omega)]) hR
  refine j_aload_n dX13_ask_5 rfl rfl ?_
  refine cV13_455 (d1 := 1) rfl dX13_ask_6 (by decide) (Nat.le_of_ble_eq_true rfl) ?_
  refine m_rpE hX hM hY hTn hg hW hR1 h8 ?_
  refine j_istore_n (lv2 := [_, _, _, _, _, _, _]) dX13_ask_9 rfl (by decide) rfl rfl ?_
  refine j_iload_n dX13_ask_10 rfl rfl ?_
  refine j_if_le (tgt := 20) dX13_ask_11 (by decide) (fun h11 => absurd h11 (by decide)) (fun h11 => ?_)
  refine j_aload_n dX13_ask_14 rfl rfl ?_
  refine j_iload_n dX13_ask_15 rfl rfl ?_
  refine cV13_57 (d1 := 1) rfl dX13_ask_16 (by decide) (Nat.le_of_ble_eq_true rfl) ?_
  refine m_refused ?_
  refine j_iret rfl dX13_ask_19 ?_
  rw [e1]; exact hp
theorem mx_fits  (hX : XM mr) (hM : MM M) (hY : XT mr M) (hTn : mr 1000 3 = some M) (hg : GB t) (hW : WT t) (hR : RM mi M t) (hP8 : 0 < t 0 8) (hp : ∀ m : MI, (∀ z, z ≠ 1000 → z ≠ 1011 → z ≠ 1012 → m z = mi z) → (∀ j, j ≠ 0 → j ≠ 30 → m 1000 j = mi 1000 j) → m 1000 0 = 0 → post (some (.int (nI (pro (nrk t) (t 0 8))))) (up (up m 1000 1 0) 1000 2 (-1)) ml mr dom) : CT G 4 0 0 yX13_fits cX13_fits 2 (some .int) [.ref 1000] mi ml mr dom post := by
  have w := hW.1
  have hge := hM.ge
  refine enter 1 (by decide) rfl rfl (fun X => ?_)
  refine j_aload_n dX13_fits_0 rfl rfl ?_
  refine j_iconst (v := nI 0) dX13_fits_1 (by decide) ?_
  refine pI13_51 rfl dX13_fits_2 ?_
  obtain ⟨m1, e1⟩ : ∃ m, m = up mi 1000 0 (nI 0) := ⟨_, rfl⟩
  rw [← e1]
  have hR1 : RM m1 M t := RM_lo hM (fun n hn => by rw [e1, up_off _ _ (by omega)]) hR
  refine j_aload_n dX13_fits_5 rfl rfl ?_
  refine cV13_455 (d1 := 1) rfl dX13_fits_6 (by decide) (Nat.le_of_ble_eq_true rfl) ?_
  refine m_rpG hX hM hY hTn hg hW hR1 hP8 ?_
  refine j_istore_n (lv2 := [_, _]) dX13_fits_9 rfl (by decide) rfl rfl ?_
  refine j_iload_n dX13_fits_10 rfl rfl ?_
  refine j_if_le (tgt := 20) dX13_fits_11 (by decide) (fun h11 => ?_) (fun h11 => absurd (by decide) h11)
  refine j_aload_n dX13_fits_20 rfl rfl ?_
  refine cV13_458 (d1 := 3) rfl dX13_fits_21 (by decide) (Nat.le_of_ble_eq_true rfl) ?_
  refine m_fitting hX hM hY hTn hg hW hR1 hP8 (fun m hm hJ hro hco => ?_)
  have hRm : RM m M t := RM_lo hM (fun n hn => by rw [hm n (by omega) (by omega) (by omega)]) hR1
  have hwb := wfK_b hW
  have hrb := rows_b hW
  refine j_aload_n dX13_fits_24 rfl rfl ?_
  refine j_aload_n dX13_fits_25 rfl rfl ?_
  refine gI13_449 rfl dX13_fits_26 ?_
  rw [hro]
  refine cV13_61 (d1 := 1) rfl dX13_fits_29 (by decide) (Nat.le_of_ble_eq_true rfl) ?_
  refine m_fair ?_
  refine j_iret rfl dX13_fits_32 ?_
  exact hp m (fun z a b c => by rw [hm z a b c, e1, up_off _ _ a]) (fun j j0 j1 => by rw [hJ j j1, e1, up_ne _ _ j0]) (by rw [hJ 0 (by decide), e1]; rfl)
theorem m_couldBe {k : Nat} (hX : XM mr) (hM : MM M) (hY : XT mr M) (hTn : mr 1000 3 = some M) (hg : GB t) (hW : WT t) (hR : RM mi M t) (h1 : k < t 0 8) (hco : ∀ k p, k < t 0 8 → p < t 0 5 → mi 1012 (6 * k + p) = nI (wfK t (t 0 8) (6 * k + p))) (hp : post (some (.int (nI (bst (fun p => decide (0 < wfK t (t 0 8) (6 * k + p))) (t 0 5))))) mi ml mr dom) : CT G 1 0 0 yX13_couldBe cX13_couldBe 4 (some .int) [.ref 1000, .int (nI k)] mi ml mr dom post := by
  have w := hW.1
  have hge := hM.ge
  refine enter 2 (by decide) rfl rfl (fun X => ?_)
  refine j_iconst (v := nI 0) dX13_couldBe_0 (by decide) ?_
  refine j_istore_n (lv2 := [_, _, _, _]) dX13_couldBe_1 rfl (by decide) rfl rfl ?_
  refine j_iconst (v := nI 0) dX13_couldBe_2 (by decide) ?_
  refine j_istore_n (lv2 := [_, _, _, _]) dX13_couldBe_3 rfl (by decide) rfl rfl ?_
  skip
  rw [show nI 0 = nI (bst (fun p => decide (0 < wfK t (t 0 8) (6 * k + p))) 0) from rfl]
  have key : J cX13_couldBe 4 yX13_couldBe.cls yX13_couldBe.name (some .int) 1 G X post 0 0 mi ml mr dom 4 [some (.ref 1000), some (.int (nI k)), some (.int (nI (bst (fun p => decide (0 < wfK t (t 0 8) (6 * k + p))) 0))), some (.int (nI 0))] [] := by
    refine lq (n := t 0 5) (H := fun p => J cX13_couldBe 4 yX13_couldBe.cls yX13_couldBe.name (some .int) 1 G X post 0 0 mi ml mr dom 4 [some (.ref 1000), some (.int (nI k)), some (.int (nI (bst (fun p => decide (0 < wfK t (t 0 8) (6 * k + p))) p))), some (.int (nI p))] []) ?_ (fun p hp5 ih => ?_)
    · skip
      refine j_iload_n dX13_couldBe_4 rfl rfl ?_
      refine j_aload_n dX13_couldBe_5 rfl rfl ?_
      refine gR13_335 rfl dX13_couldBe_6 hTn ?_
      refine gI13_199 (kM0 hM) dX13_couldBe_9 ?_
      rw [hR.1 5 (by decide)]
      refine j_icmp_ge (tgt := 45) dX13_couldBe_12 (by decide) (fun h12 => ?_) (fun h12 => by exfalso; rw [nI_leI (by have := hg 0 5; omega) (by have := hg 0 5; omega)] at h12; have := hg 0 5; omega)
      refine j_iload_n dX13_couldBe_45 rfl rfl ?_
      refine j_iret rfl dX13_couldBe_46 ?_
      exact hp
    · skip
      refine j_iload_n dX13_couldBe_4 rfl rfl ?_
      refine j_aload_n dX13_couldBe_5 rfl rfl ?_
      refine gR13_335 rfl dX13_couldBe_6 hTn ?_
      refine gI13_199 (kM0 hM) dX13_couldBe_9 ?_
      rw [hR.1 5 (by decide)]
      refine j_icmp_ge (tgt := 45) dX13_couldBe_12 (by decide) (fun h12 => by exfalso; rw [nI_leI (by have := hg 0 5; omega) (by omega)] at h12; have := hg 0 5; omega) (fun h12 => ?_)
      refine j_iload_n dX13_couldBe_15 rfl rfl ?_
      refine j_aload_n dX13_couldBe_16 rfl rfl ?_
      refine gR13_48 rfl dX13_couldBe_17 (x1012 hX) ?_
      refine j_bipush (v := nI 6) dX13_couldBe_20 (by decide) ?_
      refine j_iload_n dX13_couldBe_22 rfl rfl ?_
      refine j_imul dX13_couldBe_23 ?_
      rw [pk_mul]
      refine j_iload_n dX13_couldBe_24 rfl rfl ?_
      refine j_iadd dX13_couldBe_25 ?_
      rw [nI_add]
      refine j_iald rfl (inT (show ln 1012 = 30 from rfl) (by show (6 * k) + p < 30; omega) (by decide)) dX13_couldBe_26 ?_
      rw [nI_clamp (by omega), hco k p h1 (by omega)]
      refine j_if_le (tgt := 36) dX13_couldBe_27 (by decide) (fun h27 => ?_) (fun h27 => ?_)
      all_goals rw [show (0 : Int32) = nI 0 from rfl, nI_leI (by have := wfK_b hW (6 * k + p); omega) (by decide)] at h27
      · refine j_iconst (v := nI 0) dX13_couldBe_36 (by decide) ?_
        refine j_ior dX13_couldBe_37 ?_
        rw [or_0]
        refine j_istore_n (lv2 := [_, _, _, _]) dX13_couldBe_38 rfl (by decide) rfl rfl ?_
        refine j_iinc1 (lv2 := [_, _, _, _]) dX13_couldBe_39 rfl (by decide) rfl rfl ?_
        rw [nI_1]
        refine j_goto (tgt := 4) dX13_couldBe_42 (by decide) ?_
        have c1 : bst (fun p => decide (0 < wfK t (t 0 8) (6 * k + p))) (p + 1) = bst (fun p => decide (0 < wfK t (t 0 8) (6 * k + p))) p := if_neg (fun q => by have q : 0 < wfK t (t 0 8) (6 * k + p) := decide_eq_true_eq.mp q; omega)
        rw [c1] at ih
        exact ih
      · refine j_iconst (v := nI 1) dX13_couldBe_30 (by decide) ?_
        refine j_iload_n dX13_couldBe_31 rfl rfl ?_
        refine j_ishl dX13_couldBe_32 ?_
        refine j_goto (tgt := 37) dX13_couldBe_33 (by decide) ?_
        refine j_ior dX13_couldBe_37 ?_
        rw [bit_or _ (by have := Nat.pow_le_pow_right (n := 2) (i := p) (j := 6) (by decide) (by omega); have := bst_lt (fun p => decide (0 < wfK t (t 0 8) (6 * k + p))) p; show bst (fun p => decide (0 < wfK t (t 0 8) (6 * k + p))) p < 256; omega) _ (by show p < 8; omega)]
        refine j_istore_n (lv2 := [_, _, _, _]) dX13_couldBe_38 rfl (by decide) rfl rfl ?_
        refine j_iinc1 (lv2 := [_, _, _, _]) dX13_couldBe_39 rfl (by decide) rfl rfl ?_
        rw [nI_1]
        refine j_goto (tgt := 4) dX13_couldBe_42 (by decide) ?_
        have c1 : bst (fun p => decide (0 < wfK t (t 0 8) (6 * k + p))) (p + 1) = bst (fun p => decide (0 < wfK t (t 0 8) (6 * k + p))) p ||| 2 ^ p := if_pos (decide_eq_true (show 0 < wfK t (t 0 8) (6 * k + p) by omega))
        rw [c1] at ih
        exact ih
  exact key
theorem mx_couldB {x : Int32} (hX : XM mr) (hM : MM M) (hY : XT mr M) (hTn : mr 1000 3 = some M) (hg : GB t) (hW : WT t) (hR : RM mi M t) (hb : bad x (t 0 8)) (hp : post (some (.int (-1))) (rf mi (nI 1)) ml mr dom) : CT G 4 0 0 yX13_could cX13_could 2 (some .int) [.ref 1000, .int x] mi ml mr dom post := by
  have w := hW.1
  have hge := hM.ge
  refine enter 0 (by decide) rfl rfl (fun X => ?_)
  refine j_aload_n dX13_could_0 rfl rfl ?_
  refine j_iconst (v := nI 0) dX13_could_1 (by decide) ?_
  refine pI13_51 rfl dX13_could_2 ?_
  obtain ⟨m1, e1⟩ : ∃ m, m = up mi 1000 0 (nI 0) := ⟨_, rfl⟩
  rw [← e1]
  have hR1 : RM m1 M t := RM_lo hM (fun n hn => by rw [e1, up_off _ _ (by omega)]) hR
  refine j_aload_n dX13_could_5 rfl rfl ?_
  refine j_iload_n dX13_could_6 rfl rfl ?_
  refine cV13_461 (d1 := 1) rfl dX13_could_7 (by decide) (Nat.le_of_ble_eq_true rfl) ?_
  refine m_isPrintedB hX hM hY hTn hg hW hR1 hb ?_
  refine j_if_ne (tgt := 19) dX13_could_10 (by decide) (fun h10 => absurd (by decide) h10) (fun h10 => ?_)
  refine j_aload_n dX13_could_13 rfl rfl ?_
  refine j_iconst (v := nI 1) dX13_could_14 (by decide) ?_
  refine cV13_57 (d1 := 1) rfl dX13_could_15 (by decide) (Nat.le_of_ble_eq_true rfl) ?_
  refine m_refused ?_
  refine j_iret rfl dX13_could_18 ?_
  rw [e1]; exact hp
theorem mx_surelyB {x : Int32} (hX : XM mr) (hM : MM M) (hY : XT mr M) (hTn : mr 1000 3 = some M) (hg : GB t) (hW : WT t) (hR : RM mi M t) (hb : bad x (t 0 8)) (hp : post (some (.int (-1))) (rf mi (nI 1)) ml mr dom) : CT G 4 0 0 yX13_surely cX13_surely 3 (some .int) [.ref 1000, .int x] mi ml mr dom post := by
  have w := hW.1
  have hge := hM.ge
  refine enter 1 (by decide) rfl rfl (fun X => ?_)
  refine j_aload_n dX13_surely_0 rfl rfl ?_
  refine j_iconst (v := nI 0) dX13_surely_1 (by decide) ?_
  refine pI13_51 rfl dX13_surely_2 ?_
  obtain ⟨m1, e1⟩ : ∃ m, m = up mi 1000 0 (nI 0) := ⟨_, rfl⟩
  rw [← e1]
  have hR1 : RM m1 M t := RM_lo hM (fun n hn => by rw [e1, up_off _ _ (by omega)]) hR
  refine j_aload_n dX13_surely_5 rfl rfl ?_
  refine j_iload_n dX13_surely_6 rfl rfl ?_
  refine cV13_461 (d1 := 1) rfl dX13_surely_7 (by decide) (Nat.le_of_ble_eq_true rfl) ?_
  refine m_isPrintedB hX hM hY hTn hg hW hR1 hb ?_
  refine j_if_ne (tgt := 19) dX13_surely_10 (by decide) (fun h10 => absurd (by decide) h10) (fun h10 => ?_)
  refine j_aload_n dX13_surely_13 rfl rfl ?_
  refine j_iconst (v := nI 1) dX13_surely_14 (by decide) ?_
  refine cV13_57 (d1 := 1) rfl dX13_surely_15 (by decide) (Nat.le_of_ble_eq_true rfl) ?_
  refine m_refused ?_
  refine j_iret rfl dX13_surely_18 ?_
  rw [e1]; exact hp
theorem mx_could {k : Nat} (hX : XM mr) (hM : MM M) (hY : XT mr M) (hTn : mr 1000 3 = some M) (hg : GB t) (hW : WT t) (hR : RM mi M t) (h1 : k < t 0 8) (hp : ∀ m : MI, (∀ z, z ≠ 1000 → z ≠ 1011 → z ≠ 1012 → m z = mi z) → (∀ j, j ≠ 0 → j ≠ 30 → m 1000 j = mi 1000 j) → m 1000 0 = 0 → post (some (.int (nI (bst (fun p => decide (0 < wfK t (t 0 8) (6 * k + p))) (t 0 5))))) (up (up m 1000 1 0) 1000 2 (-1)) ml mr dom) : CT G 4 0 0 yX13_could cX13_could 2 (some .int) [.ref 1000, .int (nI k)] mi ml mr dom post := by
  have w := hW.1
  have hge := hM.ge
  have hP8 : 0 < t 0 8 := by omega
  refine enter 0 (by decide) rfl rfl (fun X => ?_)
  refine j_aload_n dX13_could_0 rfl rfl ?_
  refine j_iconst (v := nI 0) dX13_could_1 (by decide) ?_
  refine pI13_51 rfl dX13_could_2 ?_
  obtain ⟨m1, e1⟩ : ∃ m, m = up mi 1000 0 (nI 0) := ⟨_, rfl⟩
  rw [← e1]
  have hR1 : RM m1 M t := RM_lo hM (fun n hn => by rw [e1, up_off _ _ (by omega)]) hR
  refine j_aload_n dX13_could_5 rfl rfl ?_
  refine j_iload_n dX13_could_6 rfl rfl ?_
  refine cV13_461 (d1 := 1) rfl dX13_could_7 (by decide) (Nat.le_of_ble_eq_true rfl) ?_
  refine m_isPrintedG hX hM hY hTn hg hW hR1 (by omega) ?_
  refine j_if_ne (tgt := 19) dX13_could_10 (by decide) (fun h10 => ?_) (fun h10 => absurd h10 (by decide))
  refine j_aload_n dX13_could_19 rfl rfl ?_
  refine cV13_458 (d1 := 3) rfl dX13_could_20 (by decide) (Nat.le_of_ble_eq_true rfl) ?_
  refine m_fitting hX hM hY hTn hg hW hR1 hP8 (fun m hm hJ hro hco => ?_)
  have hRm : RM m M t := RM_lo hM (fun n hn => by rw [hm n (by omega) (by omega) (by omega)]) hR1
  have hwb := wfK_b hW
  have hrb := rows_b hW
  refine j_aload_n dX13_could_23 rfl rfl ?_
  refine j_aload_n dX13_could_24 rfl rfl ?_
  refine j_iload_n dX13_could_25 rfl rfl ?_
  refine cV13_464 (d1 := 1) rfl dX13_could_26 (by decide) (Nat.le_of_ble_eq_true rfl) ?_
  refine m_couldBe hX hM hY hTn hg hW hRm h1 hco ?_
  refine cV13_61 (d1 := 1) rfl dX13_could_29 (by decide) (Nat.le_of_ble_eq_true rfl) ?_
  refine m_fair ?_
  refine j_iret rfl dX13_could_32 ?_
  exact hp m (fun z a b c => by rw [hm z a b c, e1, up_off _ _ a]) (fun j j0 j1 => by rw [hJ j j1, e1, up_ne _ _ j0]) (by rw [hJ 0 (by decide), e1]; rfl)
theorem mx_surely {k : Nat} (hX : XM mr) (hM : MM M) (hY : XT mr M) (hTn : mr 1000 3 = some M) (hg : GB t) (hW : WT t) (hR : RM mi M t) (h1 : k < t 0 8) (hp : ∀ m : MI, (∀ z, z ≠ 1000 → z ≠ 1011 → z ≠ 1012 → m z = mi z) → (∀ j, j ≠ 0 → j ≠ 30 → m 1000 j = mi 1000 j) → m 1000 0 = 0 → (∀ p, p < t 0 5 → (bst (fun p => decide (0 < wfK t (t 0 8) (6 * k + p))) (t 0 5)) = 2 ^ p → post (some (.int (nI p))) (up (up m 1000 1 0) 1000 2 (-1)) ml mr dom) ∧ ((∀ p, p < t 0 5 → ¬ (bst (fun p => decide (0 < wfK t (t 0 8) (6 * k + p))) (t 0 5)) = 2 ^ p) → post (some (.int (-2))) (up (up m 1000 1 0) 1000 2 (-1)) ml mr dom)) : CT G 4 0 0 yX13_surely cX13_surely 3 (some .int) [.ref 1000, .int (nI k)] mi ml mr dom post := by
  have w := hW.1
  have hge := hM.ge
  have hP8 : 0 < t 0 8 := by omega
  refine enter 1 (by decide) rfl rfl (fun X => ?_)
  refine j_aload_n dX13_surely_0 rfl rfl ?_
  refine j_iconst (v := nI 0) dX13_surely_1 (by decide) ?_
  refine pI13_51 rfl dX13_surely_2 ?_
  obtain ⟨m1, e1⟩ : ∃ m, m = up mi 1000 0 (nI 0) := ⟨_, rfl⟩
  rw [← e1]
  have hR1 : RM m1 M t := RM_lo hM (fun n hn => by rw [e1, up_off _ _ (by omega)]) hR
  refine j_aload_n dX13_surely_5 rfl rfl ?_
  refine j_iload_n dX13_surely_6 rfl rfl ?_
  refine cV13_461 (d1 := 1) rfl dX13_surely_7 (by decide) (Nat.le_of_ble_eq_true rfl) ?_
  refine m_isPrintedG hX hM hY hTn hg hW hR1 (by omega) ?_
  refine j_if_ne (tgt := 19) dX13_surely_10 (by decide) (fun h10 => ?_) (fun h10 => absurd h10 (by decide))
  refine j_aload_n dX13_surely_19 rfl rfl ?_
  refine cV13_458 (d1 := 3) rfl dX13_surely_20 (by decide) (Nat.le_of_ble_eq_true rfl) ?_
  refine m_fitting hX hM hY hTn hg hW hR1 hP8 (fun m hm hJ hro hco => ?_)
  have hRm : RM m M t := RM_lo hM (fun n hn => by rw [hm n (by omega) (by omega) (by omega)]) hR1
  have hwb := wfK_b hW
  have hrb := rows_b hW
  refine j_iconst (v := nI 0) dX13_surely_23 (by decide) ?_
  refine j_istore_n (lv2 := [_, _, _]) dX13_surely_24 rfl (by decide) rfl rfl ?_
  refine lp (n := t 0 5) (H := fun p => J cX13_surely 3 yX13_surely.cls yX13_surely.name (some .int) 4 G X post 0 0 m ml mr dom 25 [some (.ref 1000), some (.int (nI k)), some (.int (nI p))] []) (Q := fun p => ∀ x, x < p → ¬ (bst (fun p => decide (0 < wfK t (t 0 8) (6 * k + p))) (t 0 5)) = 2 ^ x) (fun hq => ?_) (fun p hp5 hq ih => ?_) (fun x hx => absurd hx (by omega))
  · skip
    refine j_iload_n dX13_surely_25 rfl rfl ?_
    refine j_aload_n dX13_surely_26 rfl rfl ?_
    refine gR13_335 rfl dX13_surely_27 hTn ?_
    refine gI13_199 (kM0 hM) dX13_surely_30 ?_
    rw [hRm.1 5 (by decide)]
    refine j_icmp_ge (tgt := 59) dX13_surely_33 (by decide) (fun h33 => ?_) (fun h33 => by exfalso; rw [nI_leI (by have := hg 0 5; omega) (by have := hg 0 5; omega)] at h33; have := hg 0 5; omega)
    refine j_aload_n dX13_surely_59 rfl rfl ?_
    refine j_bipush (v := -2) dX13_surely_60 (by decide) ?_
    refine cV13_61 (d1 := 1) rfl dX13_surely_62 (by decide) (Nat.le_of_ble_eq_true rfl) ?_
    refine m_fair ?_
    refine j_iret rfl dX13_surely_65 ?_
    exact (hp m (fun z a b c => by rw [hm z a b c, e1, up_off _ _ a]) (fun j j0 j1 => by rw [hJ j j1, e1, up_ne _ _ j0]) (by rw [hJ 0 (by decide), e1]; rfl)).2 hq
  · skip
    refine j_iload_n dX13_surely_25 rfl rfl ?_
    refine j_aload_n dX13_surely_26 rfl rfl ?_
    refine gR13_335 rfl dX13_surely_27 hTn ?_
    refine gI13_199 (kM0 hM) dX13_surely_30 ?_
    rw [hRm.1 5 (by decide)]
    refine j_icmp_ge (tgt := 59) dX13_surely_33 (by decide) (fun h33 => by exfalso; rw [nI_leI (by have := hg 0 5; omega) (by omega)] at h33; have := hg 0 5; omega) (fun h33 => ?_)
    refine j_aload_n dX13_surely_36 rfl rfl ?_
    refine j_iload_n dX13_surely_37 rfl rfl ?_
    refine cV13_464 (d1 := 1) rfl dX13_surely_38 (by decide) (Nat.le_of_ble_eq_true rfl) ?_
    refine m_couldBe hX hM hY hTn hg hW hRm h1 hco ?_
    refine j_iconst (v := nI 1) dX13_surely_41 (by decide) ?_
    refine j_iload_n dX13_surely_42 rfl rfl ?_
    refine j_ishl dX13_surely_43 ?_
    rw [bit_1N _ (by show p < 8; omega)]
    refine j_icmp_ne (tgt := 53) dX13_surely_44 (by decide) (fun h44 => ?_) (fun h44 => ?_)
    all_goals rw [nI_eq (by have := Nat.pow_le_pow_right (n := 2) (i := t 0 5) (j := 6) (by decide) (by omega); have := bst_lt (fun p => decide (0 < wfK t (t 0 8) (6 * k + p))) (t 0 5); omega) (by have := pow_64 (by show p < 6; omega); omega)] at h44
    · refine j_iinc1 (lv2 := [_, _, _]) dX13_surely_53 rfl (by decide) rfl rfl ?_
      rw [nI_1]
      refine j_goto (tgt := 25) dX13_surely_56 (by decide) ?_
      exact ih (fun x hx => by
        by_cases e : x = p
        · subst e; exact h44
        · exact hq x (by omega))
    · refine j_aload_n dX13_surely_47 rfl rfl ?_
      refine j_iload_n dX13_surely_48 rfl rfl ?_
      refine cV13_61 (d1 := 1) rfl dX13_surely_49 (by decide) (Nat.le_of_ble_eq_true rfl) ?_
      refine m_fair ?_
      refine j_iret rfl dX13_surely_52 ?_
      exact (hp m (fun z a b c => by rw [hm z a b c, e1, up_off _ _ a]) (fun j j0 j1 => by rw [hJ j j1, e1, up_ne _ _ j0]) (by rw [hJ 0 (by decide), e1]; rfl)).1 p hp5 (by omega)
theorem mxf_le {f : Nat → Nat} {b : Nat} (h : ∀ i, f i ≤ b) (n : Nat) : mxf f n ≤ b := by
  induction n with
  | zero => exact Nat.zero_le _
  | succ n ih => show max (mxf f n) (f n) ≤ b; have := h n; omega
theorem asK_lt {t : TW} : ∀ n, n < t 0 8 → fu (asF t) n 0 ≤ n
  | 0, _ => Nat.le_refl _
  | n + 1, h => by
    show asF t n (fu (asF t) n 0) ≤ n + 1
    unfold asF; split
    · exact Nat.le_refl _
    · exact Nat.le_trans (asK_lt n (by omega)) (Nat.le_succ _)
theorem mx_ask  (hX : XM mr) (hM : MM M) (hY : XT mr M) (hTn : mr 1000 3 = some M) (hg : GB t) (hW : WT t) (hR : RM mi M t) (hP8 : 0 < t 0 8) (hp : (pro (nrk t) (t 0 8) = 0 → ∀ m : MI, (∀ z, z ≠ 1000 → z ≠ 1011 → z ≠ 1012 → m z = mi z) → (∀ j, j ≠ 0 → j ≠ 30 → m 1000 j = mi 1000 j) → m 1000 0 = 0 → post (some (.int (-2))) (up (up m 1000 1 0) 1000 2 (-1)) ml mr dom) ∧ (¬ pro (nrk t) (t 0 8) = 0 → ∀ m : MI, (∀ z, z ≠ 1000 → z ≠ 1011 → z ≠ 1012 → m z = mi z) → (∀ j, j ≠ 0 → j ≠ 30 → m 1000 j = mi 1000 j) → m 1000 0 = 0 → post (some (.int (nI (asK t)))) (up (up m 1000 1 0) 1000 2 (-1)) ml mr dom)) : CT G 4 0 0 yX13_ask cX13_ask 7 (some .int) [.ref 1000] mi ml mr dom post := by
  have w := hW.1
  have hge := hM.ge
  refine enter 6 (by decide) rfl rfl (fun X => ?_)
  refine j_aload_n dX13_ask_0 rfl rfl ?_
  refine j_iconst (v := nI 0) dX13_ask_1 (by decide) ?_
  refine pI13_51 rfl dX13_ask_2 ?_
  obtain ⟨m1, e1⟩ : ∃ m, m = up mi 1000 0 (nI 0) := ⟨_, rfl⟩
  rw [← e1]
  have hR1 : RM m1 M t := RM_lo hM (fun n hn => by rw [e1, up_off _ _ (by omega)]) hR
  refine j_aload_n dX13_ask_5 rfl rfl ?_
  refine cV13_455 (d1 := 1) rfl dX13_ask_6 (by decide) (Nat.le_of_ble_eq_true rfl) ?_
  refine m_rpG hX hM hY hTn hg hW hR1 hP8 ?_
  refine j_istore_n (lv2 := [_, _, _, _, _, _, _]) dX13_ask_9 rfl (by decide) rfl rfl ?_
  refine j_iload_n dX13_ask_10 rfl rfl ?_
  refine j_if_le (tgt := 20) dX13_ask_11 (by decide) (fun h11 => ?_) (fun h11 => absurd (by decide) h11)
  refine j_aload_n dX13_ask_20 rfl rfl ?_
  refine cV13_458 (d1 := 3) rfl dX13_ask_21 (by decide) (Nat.le_of_ble_eq_true rfl) ?_
  refine m_fitting hX hM hY hTn hg hW hR1 hP8 (fun m hm hJ hro hco => ?_)
  have hRm : RM m M t := RM_lo hM (fun n hn => by rw [hm n (by omega) (by omega) (by omega)]) hR1
  have hwb := wfK_b hW
  have hrb := rows_b hW
  refine j_bipush (v := -2) dX13_ask_24 (by decide) ?_
  refine j_istore_n (lv2 := [_, _, _, _, _, _, _]) dX13_ask_26 rfl (by decide) rfl rfl ?_
  refine j_iconst (v := nI 0) dX13_ask_27 (by decide) ?_
  refine j_istore_n (lv2 := [_, _, _, _, _, _, _]) dX13_ask_28 rfl (by decide) rfl rfl ?_
  refine j_iconst (v := nI 0) dX13_ask_29 (by decide) ?_
  refine j_istore (lv2 := [_, _, _, _, _, _, _]) dX13_ask_30 (by decide) rfl rfl ?_
  by_cases hz : pro (nrk t) (t 0 8) = 0
  · skip
    refine j_iload dX13_ask_32 rfl ?_
    refine j_aload_n dX13_ask_34 rfl rfl ?_
    refine gR13_335 rfl dX13_ask_35 hTn ?_
    refine gI13_316 (kM0 hM) dX13_ask_38 ?_
    rw [hRm.1 8 (by decide)]
    refine j_icmp_ge (tgt := 135) dX13_ask_41 (by decide) (fun h41 => by exfalso; rw [nI_leI (by have := hg 0 8; omega) (by omega)] at h41; have := hg 0 8; omega) (fun h41 => ?_)
    refine j_aload_n dX13_ask_44 rfl rfl ?_
    refine gI13_449 rfl dX13_ask_45 ?_
    rw [hro]
    refine j_if_le (tgt := 135) dX13_ask_48 (by decide) (fun h48 => ?_) (fun h48 => by exfalso; rw [show (0 : Int32) = nI 0 from rfl, nI_leI (by have := hrb; omega) (by decide)] at h48; have := hrb; omega)
    refine j_aload_n dX13_ask_135 rfl rfl ?_
    refine j_iload_n dX13_ask_136 rfl rfl ?_
    refine cV13_61 (d1 := 1) rfl dX13_ask_137 (by decide) (Nat.le_of_ble_eq_true rfl) ?_
    refine m_fair ?_
    refine j_iret rfl dX13_ask_140 ?_
    exact (hp.1 hz) m (fun z a b c => by rw [hm z a b c, e1, up_off _ _ a]) (fun j j0 j1 => by rw [hJ j j1, e1, up_ne _ _ j0]) (by rw [hJ 0 (by decide), e1]; rfl)
  · skip
    refine j_iload dX13_ask_32 rfl ?_
    refine j_aload_n dX13_ask_34 rfl rfl ?_
    refine gR13_335 rfl dX13_ask_35 hTn ?_
    refine gI13_316 (kM0 hM) dX13_ask_38 ?_
    rw [hRm.1 8 (by decide)]
    refine j_icmp_ge (tgt := 135) dX13_ask_41 (by decide) (fun h41 => by exfalso; rw [nI_leI (by have := hg 0 8; omega) (by omega)] at h41; have := hg 0 8; omega) (fun h41 => ?_)
    refine j_aload_n dX13_ask_44 rfl rfl ?_
    refine gI13_449 rfl dX13_ask_45 ?_
    rw [hro]
    refine j_if_le (tgt := 135) dX13_ask_48 (by decide) (fun h48 => by exfalso; rw [show (0 : Int32) = nI 0 from rfl, nI_leI (by have := hrb; omega) (by decide)] at h48; have := hrb; omega) (fun h48 => ?_)
    refine j_iconst (v := nI 0) dX13_ask_51 (by decide) ?_
    refine j_istore (lv2 := [_, _, _, _, _, _, _]) dX13_ask_52 (by decide) rfl rfl ?_
    refine j_iconst (v := nI 0) dX13_ask_54 (by decide) ?_
    refine j_istore (lv2 := [_, _, _, _, _, _, _]) dX13_ask_55 (by decide) rfl rfl ?_
    show J cX13_ask 7 yX13_ask.cls yX13_ask.name (some .int) 4 G X post 0 0 m ml mr dom 57 [some (.ref 1000), some (.int (nI 0)), some (.int (-2)), some (.int (nI 0)), some (.int (nI 0)), some (.int (nI (mxf (fun p => wfK t (t 0 8) (6 * 0 + p)) 0))), some (.int (nI 0))] []
    refine lq (n := t 0 5) (H := fun p => J cX13_ask 7 yX13_ask.cls yX13_ask.name (some .int) 4 G X post 0 0 m ml mr dom 57 [some (.ref 1000), some (.int (nI 0)), some (.int (-2)), some (.int (nI 0)), some (.int (nI 0)), some (.int (nI (mxf (fun p => wfK t (t 0 8) (6 * 0 + p)) p))), some (.int (nI p))] []) ?_ (fun p hp5 ih => ?_)
    · skip
      refine j_iload dX13_ask_57 rfl ?_
      refine j_aload_n dX13_ask_59 rfl rfl ?_
      refine gR13_335 rfl dX13_ask_60 hTn ?_
      refine gI13_199 (kM0 hM) dX13_ask_63 ?_
      rw [hRm.1 5 (by decide)]
      refine j_icmp_ge (tgt := 108) dX13_ask_66 (by decide) (fun h66 => ?_) (fun h66 => by exfalso; rw [nI_leI (by have := hg 0 5; omega) (by have := hg 0 5; omega)] at h66; have := hg 0 5; omega)
      refine j_iload_n dX13_ask_108 rfl rfl ?_
      refine j_bipush (v := -2) dX13_ask_109 (by decide) ?_
      refine j_icmp_eq (tgt := 123) dX13_ask_111 (by decide) (fun h111 => ?_) (fun h111 => absurd (by decide) h111)
      refine j_iload dX13_ask_123 rfl ?_
      refine j_istore_n (lv2 := [_, _, _, _, _, _, _]) dX13_ask_125 rfl (by decide) rfl rfl ?_
      refine j_iload dX13_ask_126 rfl ?_
      refine j_istore_n (lv2 := [_, _, _, _, _, _, _]) dX13_ask_128 rfl (by decide) rfl rfl ?_
      refine j_iinc1 (lv2 := [_, _, _, _, _, _, _]) dX13_ask_129 rfl (by decide) rfl rfl ?_
      rw [show nI 0 + 1 = nI 1 from rfl]
      refine j_goto (tgt := 32) dX13_ask_132 (by decide) ?_
      have keyo : ∀ z5 z6 : Option Value, J cX13_ask 7 yX13_ask.cls yX13_ask.name (some .int) 4 G X post 0 0 m ml mr dom 32 [some (.ref 1000), some (.int (nI 0)), some (.int (nI (fu (asF t) 0 0))), some (.int (nI (mlK t (fu (asF t) 0 0)))), some (.int (nI (0 + 1))), z5, z6] [] := by
        refine lq (n := t 0 8 - 1) (H := fun i => ∀ z5 z6 : Option Value, J cX13_ask 7 yX13_ask.cls yX13_ask.name (some .int) 4 G X post 0 0 m ml mr dom 32 [some (.ref 1000), some (.int (nI 0)), some (.int (nI (fu (asF t) i 0))), some (.int (nI (mlK t (fu (asF t) i 0)))), some (.int (nI (i + 1))), z5, z6] []) (fun z5 z6 => ?_) (fun i hi ih z5 z6 => ?_)
        · skip
          refine j_iload dX13_ask_32 rfl ?_
          refine j_aload_n dX13_ask_34 rfl rfl ?_
          refine gR13_335 rfl dX13_ask_35 hTn ?_
          refine gI13_316 (kM0 hM) dX13_ask_38 ?_
          rw [hRm.1 8 (by decide)]
          refine j_icmp_ge (tgt := 135) dX13_ask_41 (by decide) (fun h41 => ?_) (fun h41 => by exfalso; rw [nI_leI (by have := hg 0 8; omega) (by omega)] at h41; have := hg 0 8; omega)
          refine j_aload_n dX13_ask_135 rfl rfl ?_
          refine j_iload_n dX13_ask_136 rfl rfl ?_
          refine cV13_61 (d1 := 1) rfl dX13_ask_137 (by decide) (Nat.le_of_ble_eq_true rfl) ?_
          refine m_fair ?_
          refine j_iret rfl dX13_ask_140 ?_
          exact (hp.2 hz) m (fun z a b c => by rw [hm z a b c, e1, up_off _ _ a]) (fun j j0 j1 => by rw [hJ j j1, e1, up_ne _ _ j0]) (by rw [hJ 0 (by decide), e1]; rfl)
        · have hbe := asK_lt (t := t) i (by omega)
          have hml : mlK t (fu (asF t) i 0) ≤ 7776 := mxf_le (fun x => wfK_b hW _) _
          refine j_iload dX13_ask_32 rfl ?_
          refine j_aload_n dX13_ask_34 rfl rfl ?_
          refine gR13_335 rfl dX13_ask_35 hTn ?_
          refine gI13_316 (kM0 hM) dX13_ask_38 ?_
          rw [hRm.1 8 (by decide)]
          refine j_icmp_ge (tgt := 135) dX13_ask_41 (by decide) (fun h41 => by exfalso; rw [nI_leI (by have := hg 0 8; omega) (by omega)] at h41; have := hg 0 8; omega) (fun h41 => ?_)
          refine j_aload_n dX13_ask_44 rfl rfl ?_
          refine gI13_449 rfl dX13_ask_45 ?_
          rw [hro]
          refine j_if_le (tgt := 135) dX13_ask_48 (by decide) (fun h48 => by exfalso; rw [show (0 : Int32) = nI 0 from rfl, nI_leI (by have := hrb; omega) (by decide)] at h48; have := hrb; omega) (fun h48 => ?_)
          refine j_iconst (v := nI 0) dX13_ask_51 (by decide) ?_
          refine j_istore (lv2 := [_, _, _, _, _, _, _]) dX13_ask_52 (by decide) rfl rfl ?_
          refine j_iconst (v := nI 0) dX13_ask_54 (by decide) ?_
          refine j_istore (lv2 := [_, _, _, _, _, _, _]) dX13_ask_55 (by decide) rfl rfl ?_
          show J cX13_ask 7 yX13_ask.cls yX13_ask.name (some .int) 4 G X post 0 0 m ml mr dom 57 [some (.ref 1000), some (.int (nI 0)), some (.int (nI (fu (asF t) i 0))), some (.int (nI (mlK t (fu (asF t) i 0)))), some (.int (nI (i + 1))), some (.int (nI (mxf (fun p => wfK t (t 0 8) (6 * (i + 1) + p)) 0))), some (.int (nI 0))] []
          refine lq (n := t 0 5) (H := fun p => J cX13_ask 7 yX13_ask.cls yX13_ask.name (some .int) 4 G X post 0 0 m ml mr dom 57 [some (.ref 1000), some (.int (nI 0)), some (.int (nI (fu (asF t) i 0))), some (.int (nI (mlK t (fu (asF t) i 0)))), some (.int (nI (i + 1))), some (.int (nI (mxf (fun p => wfK t (t 0 8) (6 * (i + 1) + p)) p))), some (.int (nI p))] []) ?_ (fun p hp5 ih => ?_)
          · skip
            refine j_iload dX13_ask_57 rfl ?_
            refine j_aload_n dX13_ask_59 rfl rfl ?_
            refine gR13_335 rfl dX13_ask_60 hTn ?_
            refine gI13_199 (kM0 hM) dX13_ask_63 ?_
            rw [hRm.1 5 (by decide)]
            refine j_icmp_ge (tgt := 108) dX13_ask_66 (by decide) (fun h66 => ?_) (fun h66 => by exfalso; rw [nI_leI (by have := hg 0 5; omega) (by have := hg 0 5; omega)] at h66; have := hg 0 5; omega)
            refine j_iload_n dX13_ask_108 rfl rfl ?_
            refine j_bipush (v := -2) dX13_ask_109 (by decide) ?_
            refine j_icmp_eq (tgt := 123) dX13_ask_111 (by decide) (fun h111 => by exfalso; exact nI_nem2 (by omega) h111) (fun h111 => ?_)
            refine j_iload dX13_ask_114 rfl ?_
            refine j_iload_n dX13_ask_116 rfl rfl ?_
            refine j_icmp_lt (tgt := 123) dX13_ask_117 (by decide) (fun h117 => ?_) (fun h117 => ?_)
            all_goals rw [nI_ltI (by have := mxf_le (f := fun p => wfK t (t 0 8) (6 * (i + 1) + p)) (b := 7776) (fun x => wfK_b hW (6 * (i + 1) + x)) (t 0 5); omega) (by have := hml; omega)] at h117
            · refine j_iload dX13_ask_123 rfl ?_
              refine j_istore_n (lv2 := [_, _, _, _, _, _, _]) dX13_ask_125 rfl (by decide) rfl rfl ?_
              refine j_iload dX13_ask_126 rfl ?_
              refine j_istore_n (lv2 := [_, _, _, _, _, _, _]) dX13_ask_128 rfl (by decide) rfl rfl ?_
              refine j_iinc1 (lv2 := [_, _, _, _, _, _, _]) dX13_ask_129 rfl (by decide) rfl rfl ?_
              rw [nI_1]
              refine j_goto (tgt := 32) dX13_ask_132 (by decide) ?_
              have c1 : fu (asF t) (i + 1) 0 = i + 1 := if_pos (show mlK t (i + 1) < mlK t (fu (asF t) i 0) from by show mxf (fun p => wfK t (t 0 8) (6 * (i + 1) + p)) (t 0 5) < _; omega)
              rw [c1] at ih
              exact ih _ _
            · refine j_goto (tgt := 129) dX13_ask_120 (by decide) ?_
              refine j_iinc1 (lv2 := [_, _, _, _, _, _, _]) dX13_ask_129 rfl (by decide) rfl rfl ?_
              rw [nI_1]
              refine j_goto (tgt := 32) dX13_ask_132 (by decide) ?_
              have c1 : fu (asF t) (i + 1) 0 = fu (asF t) i 0 := if_neg (show ¬ mlK t (i + 1) < mlK t (fu (asF t) i 0) from by show ¬ mxf (fun p => wfK t (t 0 8) (6 * (i + 1) + p)) (t 0 5) < _; omega)
              rw [c1] at ih
              exact ih _ _
          · skip
            refine j_iload dX13_ask_57 rfl ?_
            refine j_aload_n dX13_ask_59 rfl rfl ?_
            refine gR13_335 rfl dX13_ask_60 hTn ?_
            refine gI13_199 (kM0 hM) dX13_ask_63 ?_
            rw [hRm.1 5 (by decide)]
            refine j_icmp_ge (tgt := 108) dX13_ask_66 (by decide) (fun h66 => by exfalso; rw [nI_leI (by have := hg 0 5; omega) (by omega)] at h66; have := hg 0 5; omega) (fun h66 => ?_)
            refine j_aload_n dX13_ask_69 rfl rfl ?_
            refine gR13_48 rfl dX13_ask_70 (x1012 hX) ?_
            refine j_bipush (v := nI 6) dX13_ask_73 (by decide) ?_
            refine j_iload dX13_ask_75 rfl ?_
            refine j_imul dX13_ask_77 ?_
            rw [pk_mul]
            refine j_iload dX13_ask_78 rfl ?_
            refine j_iadd dX13_ask_80 ?_
            rw [nI_add]
            refine j_iald rfl (inT (show ln 1012 = 30 from rfl) (by show (6 * (i + 1)) + p < 30; omega) (by decide)) dX13_ask_81 ?_
            rw [nI_clamp (by omega), hco (i + 1) p (by omega) (by omega)]
            refine j_iload dX13_ask_82 rfl ?_
            refine j_icmp_le (tgt := 102) dX13_ask_84 (by decide) (fun h84 => ?_) (fun h84 => ?_)
            all_goals rw [nI_leI (by have := wfK_b hW (6 * (i + 1) + p); omega) (by have := mxf_le (f := fun p => wfK t (t 0 8) (6 * (i + 1) + p)) (b := 7776) (fun x => wfK_b hW (6 * (i + 1) + x)) p; omega)] at h84
            · refine j_iinc1 (lv2 := [_, _, _, _, _, _, _]) dX13_ask_102 rfl (by decide) rfl rfl ?_
              rw [nI_1]
              refine j_goto (tgt := 57) dX13_ask_105 (by decide) ?_
              have c1 : mxf (fun p => wfK t (t 0 8) (6 * (i + 1) + p)) (p + 1) = mxf (fun p => wfK t (t 0 8) (6 * (i + 1) + p)) p := Nat.max_eq_left (show wfK t (t 0 8) (6 * (i + 1) + p) ≤ mxf (fun p => wfK t (t 0 8) (6 * (i + 1) + p)) p by omega)
              rw [c1] at ih
              exact ih
            · refine j_aload_n dX13_ask_87 rfl rfl ?_
              refine gR13_48 rfl dX13_ask_88 (x1012 hX) ?_
              refine j_bipush (v := nI 6) dX13_ask_91 (by decide) ?_
              refine j_iload dX13_ask_93 rfl ?_
              refine j_imul dX13_ask_95 ?_
              rw [pk_mul]
              refine j_iload dX13_ask_96 rfl ?_
              refine j_iadd dX13_ask_98 ?_
              rw [nI_add]
              refine j_iald rfl (inT (show ln 1012 = 30 from rfl) (by show (6 * (i + 1)) + p < 30; omega) (by decide)) dX13_ask_99 ?_
              rw [nI_clamp (by omega), hco (i + 1) p (by omega) (by omega)]
              refine j_istore (lv2 := [_, _, _, _, _, _, _]) dX13_ask_100 (by decide) rfl rfl ?_
              refine j_iinc1 (lv2 := [_, _, _, _, _, _, _]) dX13_ask_102 rfl (by decide) rfl rfl ?_
              rw [nI_1]
              refine j_goto (tgt := 57) dX13_ask_105 (by decide) ?_
              have c1 : mxf (fun p => wfK t (t 0 8) (6 * (i + 1) + p)) (p + 1) = wfK t (t 0 8) (6 * (i + 1) + p) := Nat.max_eq_right (show mxf (fun p => wfK t (t 0 8) (6 * (i + 1) + p)) p ≤ wfK t (t 0 8) (6 * (i + 1) + p) by omega)
              rw [c1] at ih
              exact ih
      exact keyo _ _
    · skip
      refine j_iload dX13_ask_57 rfl ?_
      refine j_aload_n dX13_ask_59 rfl rfl ?_
      refine gR13_335 rfl dX13_ask_60 hTn ?_
      refine gI13_199 (kM0 hM) dX13_ask_63 ?_
      rw [hRm.1 5 (by decide)]
      refine j_icmp_ge (tgt := 108) dX13_ask_66 (by decide) (fun h66 => by exfalso; rw [nI_leI (by have := hg 0 5; omega) (by omega)] at h66; have := hg 0 5; omega) (fun h66 => ?_)
      refine j_aload_n dX13_ask_69 rfl rfl ?_
      refine gR13_48 rfl dX13_ask_70 (x1012 hX) ?_
      refine j_bipush (v := nI 6) dX13_ask_73 (by decide) ?_
      refine j_iload dX13_ask_75 rfl ?_
      refine j_imul dX13_ask_77 ?_
      rw [show nI 6 * nI 0 = nI 0 by decide]
      refine j_iload dX13_ask_78 rfl ?_
      refine j_iadd dX13_ask_80 ?_
      rw [show nI 0 + nI p = nI p by rw [nI_add, Nat.zero_add]]
      refine j_iald rfl (inT (show ln 1012 = 30 from rfl) (by show p < 30; omega) (by decide)) dX13_ask_81 ?_
      rw [nI_clamp (by omega), show m 1012 p = nI (wfK t (t 0 8) (6 * 0 + p)) from by have q := hco 0 p (by omega) (by omega); have e : 6 * 0 + p = p := (by omega); rw [e] at q; rw [e]; exact q]
      refine j_iload dX13_ask_82 rfl ?_
      refine j_icmp_le (tgt := 102) dX13_ask_84 (by decide) (fun h84 => ?_) (fun h84 => ?_)
      all_goals rw [nI_leI (by have := wfK_b hW (6 * 0 + p); omega) (by have := mxf_le (f := fun p => wfK t (t 0 8) (6 * 0 + p)) (b := 7776) (fun x => wfK_b hW (6 * 0 + x)) p; omega)] at h84
      · refine j_iinc1 (lv2 := [_, _, _, _, _, _, _]) dX13_ask_102 rfl (by decide) rfl rfl ?_
        rw [nI_1]
        refine j_goto (tgt := 57) dX13_ask_105 (by decide) ?_
        have c1 : mxf (fun p => wfK t (t 0 8) (6 * 0 + p)) (p + 1) = mxf (fun p => wfK t (t 0 8) (6 * 0 + p)) p := Nat.max_eq_left (show wfK t (t 0 8) (6 * 0 + p) ≤ mxf (fun p => wfK t (t 0 8) (6 * 0 + p)) p by omega)
        rw [c1] at ih
        exact ih
      · refine j_aload_n dX13_ask_87 rfl rfl ?_
        refine gR13_48 rfl dX13_ask_88 (x1012 hX) ?_
        refine j_bipush (v := nI 6) dX13_ask_91 (by decide) ?_
        refine j_iload dX13_ask_93 rfl ?_
        refine j_imul dX13_ask_95 ?_
        rw [show nI 6 * nI 0 = nI 0 by decide]
        refine j_iload dX13_ask_96 rfl ?_
        refine j_iadd dX13_ask_98 ?_
        rw [show nI 0 + nI p = nI p by rw [nI_add, Nat.zero_add]]
        refine j_iald rfl (inT (show ln 1012 = 30 from rfl) (by show p < 30; omega) (by decide)) dX13_ask_99 ?_
        rw [nI_clamp (by omega), show m 1012 p = nI (wfK t (t 0 8) (6 * 0 + p)) from by have q := hco 0 p (by omega) (by omega); have e : 6 * 0 + p = p := (by omega); rw [e] at q; rw [e]; exact q]
        refine j_istore (lv2 := [_, _, _, _, _, _, _]) dX13_ask_100 (by decide) rfl rfl ?_
        refine j_iinc1 (lv2 := [_, _, _, _, _, _, _]) dX13_ask_102 rfl (by decide) rfl rfl ?_
        rw [nI_1]
        refine j_goto (tgt := 57) dX13_ask_105 (by decide) ?_
        have c1 : mxf (fun p => wfK t (t 0 8) (6 * 0 + p)) (p + 1) = wfK t (t 0 8) (6 * 0 + p) := Nat.max_eq_right (show mxf (fun p => wfK t (t 0 8) (6 * 0 + p)) p ≤ wfK t (t 0 8) (6 * 0 + p) by omega)
        rw [c1] at ih
        exact ih
end M13p
