/-! the reference: the busiest hour, the marks that tell all apart -/
section M13h
variable {G : GG} {post : PT} {mi : MI} {ml : ML} {mr : MR} {dom : List Nat} {M : Nat} {t : TW} {v : Nat → Nat}
theorem bs8 {t : TW} : ∀ i, t 0 7 ≤ 8 → (fu (bsF t) i (-2, 0)).2 ≤ 8 := by
  intro i h
  induction i with
  | zero => exact Nat.zero_le _
  | succ i ih =>
    rw [fu]; unfold bsF; split
    · exact Nat.le_trans (cnt_le _ _) h
    · exact ih
theorem mx_busiest  (hX : XM mr) (hM : MM M) (hY : XT mr M) (hTn : mr 1000 3 = some M) (hg : GB t) (hW : WT t) (hR : RM mi M t)  (hp : post (some (.int (bsy t))) (fa mi) ml mr dom) : CT G 2 0 0 yX13_busiest cX13_busiest 6 (some .int) [.ref 1000] mi ml mr dom post := by
  have w := hW.1
  have hge := hM.ge
  refine enter 5 (by decide) rfl rfl (fun X => ?_)
  refine j_aload_n dX13_busiest_0 rfl rfl ?_
  refine j_iconst (v := nI 0) dX13_busiest_1 (by decide) ?_
  refine pI13_51 rfl dX13_busiest_2 ?_
  obtain ⟨m1, e1⟩ : ∃ m, m = up mi 1000 0 (nI 0) := ⟨_, rfl⟩
  rw [← e1]
  have hR1 : RM m1 M t := RM_lo hM (fun n hn => by rw [e1, up_off _ _ (by omega)]) hR
  refine j_aload_n dX13_busiest_5 rfl rfl ?_
  refine gR13_335 rfl dX13_busiest_6 hTn ?_
  refine j_ifnonnull (tgt := 18) dX13_busiest_9 (by decide) ?_
  refine j_bipush (v := -2) dX13_busiest_18 (by decide) ?_
  refine j_istore_n (lv2 := [_, _, _, _, _, _]) dX13_busiest_20 rfl (by decide) rfl rfl ?_
  refine j_iconst (v := nI 0) dX13_busiest_21 (by decide) ?_
  refine j_istore_n (lv2 := [_, _, _, _, _, _]) dX13_busiest_22 rfl (by decide) rfl rfl ?_
  refine j_iconst (v := nI 0) dX13_busiest_23 (by decide) ?_
  refine j_istore_n (lv2 := [_, _, _, _, _, _]) dX13_busiest_24 rfl (by decide) rfl rfl ?_
  have key : ∀ z4 z5 : Option Value, J cX13_busiest 6 yX13_busiest.cls yX13_busiest.name (some .int) 2 G X post 0 0 m1 ml mr dom 25 [some (.ref 1000), some (.int (fu (bsF t) 0 (-2, 0)).1), some (.int (nI (fu (bsF t) 0 (-2, 0)).2)), some (.int (nI 0)), z4, z5] [] := by
    refine lq (n := 24) (H := fun i => ∀ z4 z5 : Option Value, J cX13_busiest 6 yX13_busiest.cls yX13_busiest.name (some .int) 2 G X post 0 0 m1 ml mr dom 25 [some (.ref 1000), some (.int (fu (bsF t) i (-2, 0)).1), some (.int (nI (fu (bsF t) i (-2, 0)).2)), some (.int (nI i)), z4, z5] []) (fun z4 z5 => ?_) (fun i hi ih z4 z5 => ?_)
    · skip
      refine j_iload_n dX13_busiest_25 rfl rfl ?_
      refine j_bipush (v := nI 24) dX13_busiest_26 (by decide) ?_
      refine j_icmp_ge (tgt := 99) dX13_busiest_28 (by decide) (fun h28 => ?_) (fun h28 => by exfalso; rw [nI_leI (by omega) (by omega)] at h28; omega)
      refine j_aload_n dX13_busiest_99 rfl rfl ?_
      refine j_iload_n dX13_busiest_100 rfl rfl ?_
      refine cV13_61 (d1 := 1) rfl dX13_busiest_101 (by decide) (Nat.le_of_ble_eq_true rfl) ?_
      refine m_fair ?_
      refine j_iret rfl dX13_busiest_104 ?_
      rw [e1]; exact hp
    · skip
      refine j_iload_n dX13_busiest_25 rfl rfl ?_
      refine j_bipush (v := nI 24) dX13_busiest_26 (by decide) ?_
      refine j_icmp_ge (tgt := 99) dX13_busiest_28 (by decide) (fun h28 => by exfalso; rw [nI_leI (by omega) (by omega)] at h28; omega) (fun h28 => ?_)
      refine j_iconst (v := nI 0) dX13_busiest_31 (by decide) ?_
      refine j_istore (lv2 := [_, _, _, _, _, _]) dX13_busiest_32 (by decide) rfl rfl ?_
      refine j_iconst (v := nI 0) dX13_busiest_34 (by decide) ?_
      refine j_istore (lv2 := [_, _, _, _, _, _]) dX13_busiest_35 (by decide) rfl rfl ?_
      refine lq (n := t 0 7) (H := fun j => J cX13_busiest 6 yX13_busiest.cls yX13_busiest.name (some .int) 2 G X post 0 0 m1 ml mr dom 37 [some (.ref 1000), some (.int (fu (bsF t) i (-2, 0)).1), some (.int (nI (fu (bsF t) i (-2, 0)).2)), some (.int (nI i)), some (.int (nI (cnt (fun k => decide (t 13 k = i)) j))), some (.int (nI j))] []) ?_ (fun j hj ihj => ?_)
      · skip
        refine j_iload dX13_busiest_37 rfl ?_
        refine j_aload_n dX13_busiest_39 rfl rfl ?_
        refine gR13_335 rfl dX13_busiest_40 hTn ?_
        refine gI13_302 (kM0 hM) dX13_busiest_43 ?_
        rw [hR1.1 7 (by decide)]
        refine j_icmp_ge (tgt := 79) dX13_busiest_46 (by decide) (fun h46 => ?_) (fun h46 => by exfalso; rw [nI_leI (by have := hg 0 7; omega) (by have := hg 0 7; omega)] at h46; have := hg 0 7; omega)
        refine j_iload dX13_busiest_79 rfl ?_
        refine j_iload_n dX13_busiest_81 rfl rfl ?_
        refine j_icmp_gt (tgt := 88) dX13_busiest_82 (by decide) (fun h82 => ?_) (fun h82 => ?_)
        all_goals rw [nI_ltI (by have := bs8 (t := t) i w.2.2.2.2.2.2.2.1; omega) (by have := cnt_le (fun k => decide (t 13 k = i)) (t 0 7); omega)] at h82
        · refine j_iload dX13_busiest_88 rfl ?_
          refine j_istore_n (lv2 := [_, _, _, _, _, _]) dX13_busiest_90 rfl (by decide) rfl rfl ?_
          refine j_iload_n dX13_busiest_91 rfl rfl ?_
          refine j_istore_n (lv2 := [_, _, _, _, _, _]) dX13_busiest_92 rfl (by decide) rfl rfl ?_
          refine j_iinc1 (lv2 := [_, _, _, _, _, _]) dX13_busiest_93 rfl (by decide) rfl rfl ?_
          rw [nI_1]
          refine j_goto (tgt := 25) dX13_busiest_96 (by decide) ?_
          have c2 : (fu (bsF t) (i + 1) (-2, 0)) = (nI i, cnt (fun k => decide (t 13 k = i)) (t 0 7)) := by rw [fu]; exact if_pos h82
          rw [c2] at ih
          exact ih _ _
        · refine j_goto (tgt := 93) dX13_busiest_85 (by decide) ?_
          refine j_iinc1 (lv2 := [_, _, _, _, _, _]) dX13_busiest_93 rfl (by decide) rfl rfl ?_
          rw [nI_1]
          refine j_goto (tgt := 25) dX13_busiest_96 (by decide) ?_
          have c2 : (fu (bsF t) (i + 1) (-2, 0)) = (fu (bsF t) i (-2, 0)) := by rw [fu]; exact if_neg h82
          rw [c2] at ih
          exact ih _ _
      · skip
        refine j_iload dX13_busiest_37 rfl ?_
        refine j_aload_n dX13_busiest_39 rfl rfl ?_
        refine gR13_335 rfl dX13_busiest_40 hTn ?_
        refine gI13_302 (kM0 hM) dX13_busiest_43 ?_
        rw [hR1.1 7 (by decide)]
        refine j_icmp_ge (tgt := 79) dX13_busiest_46 (by decide) (fun h46 => by exfalso; rw [nI_leI (by have := hg 0 7; omega) (by omega)] at h46; have := hg 0 7; omega) (fun h46 => ?_)
        refine j_iload dX13_busiest_49 rfl ?_
        refine j_aload_n dX13_busiest_51 rfl rfl ?_
        refine gR13_335 rfl dX13_busiest_52 hTn ?_
        refine gR13_313 (kM0 hM) dX13_busiest_55 (xM13 hY) ?_
        refine j_iload dX13_busiest_58 rfl ?_
        refine j_iald (kM13 hM) (inT (lM13 hM) (by show j < 8; omega) (by decide)) dX13_busiest_60 ?_
        rw [nI_clamp (by omega), rM13 hR1 (by show j < 8; omega)]
        refine j_iload_n dX13_busiest_61 rfl rfl ?_
        refine j_icmp_ne (tgt := 69) dX13_busiest_62 (by decide) (fun h62 => ?_) (fun h62 => ?_)
        all_goals rw [nI_eq (by have := hg 13 j; omega) (by omega)] at h62
        · refine j_iconst (v := nI 0) dX13_busiest_69 (by decide) ?_
          refine j_iadd dX13_busiest_70 ?_
          rw [nI_add]
          refine j_istore (lv2 := [_, _, _, _, _, _]) dX13_busiest_71 (by decide) rfl rfl ?_
          refine j_iinc1 (lv2 := [_, _, _, _, _, _]) dX13_busiest_73 rfl (by decide) rfl rfl ?_
          rw [nI_1]
          refine j_goto (tgt := 37) dX13_busiest_76 (by decide) ?_
          have c1 : cnt (fun k => decide (t 13 k = i)) (j + 1) = cnt (fun k => decide (t 13 k = i)) j := if_neg (fun q => h62 (of_decide_eq_true q))
          rw [c1] at ihj
          exact ihj
        · refine j_iconst (v := nI 1) dX13_busiest_65 (by decide) ?_
          refine j_goto (tgt := 70) dX13_busiest_66 (by decide) ?_
          refine j_iadd dX13_busiest_70 ?_
          rw [nI_add]
          refine j_istore (lv2 := [_, _, _, _, _, _]) dX13_busiest_71 (by decide) rfl rfl ?_
          refine j_iinc1 (lv2 := [_, _, _, _, _, _]) dX13_busiest_73 rfl (by decide) rfl rfl ?_
          rw [nI_1]
          refine j_goto (tgt := 37) dX13_busiest_76 (by decide) ?_
          have c1 : cnt (fun k => decide (t 13 k = i)) (j + 1) = cnt (fun k => decide (t 13 k = i)) j + 1 := if_pos (decide_eq_true h62)
          rw [c1] at ihj
          exact ihj
  exact key none none
/-- alike in the first i marks that are asked for -/
def alk (t : TW) (b p q i : Nat) : Bool := (List.range i).all fun j => !b.testBit j || decide (mks t p j = mks t q j)
theorem alk_s (t : TW) (b p q i : Nat) : alk t b p q (i + 1) = (alk t b p q i && (!b.testBit i || decide (mks t p i = mks t q i))) := by
  unfold alk; rw [List.range_succ, List.all_append]; simp
theorem tb_hi : ∀ b, b < 8 → b.testBit 3 = false ∧ b.testBit 4 = false := by decide
theorem alk_like (t : TW) {b : Nat} (hb : b < 8) (p q : Nat) : alk t b p q 3 = like (mks t p) (mks t q) b := by
  have h5 : like (mks t p) (mks t q) b = alk t b p q 5 := rfl
  rw [h5, show alk t b p q 5 = (alk t b p q 4 && (!b.testBit 4 || decide (mks t p 4 = mks t q 4))) from alk_s t b p q 4, show alk t b p q 4 = (alk t b p q 3 && (!b.testBit 3 || decide (mks t p 3 = mks t q 3))) from alk_s t b p q 3, (tb_hi b hb).1, (tb_hi b hb).2]; simp
theorem like_sym (m1 m2 : Nat → Nat) (b : Nat) : like m1 m2 b = like m2 m1 b := by
  unfold like
  congr 1
  funext i
  rw [decide_eq_decide.mpr (show m1 i = m2 i ↔ m2 i = m1 i from eq_comm)]
theorem unl_t2 {t : TW} {b : Nat} (h : ∀ p, p < t 0 5 → ∀ q, q < p → like (mks t p) (mks t q) b = false) : unl t b = true := by
  unfold unl
  rw [List.all_eq_true]
  intro p hp
  rw [List.all_eq_true]
  intro q hq
  have hp := List.mem_range.mp hp
  have hq := List.mem_range.mp hq
  by_cases c : p < q
  · rw [like_sym, h q hq p c]; simp
  · simp [c]
theorem unl_f2 {t : TW} {b p q : Nat} (hp : p < t 0 5) (hq : q < p) (h : like (mks t p) (mks t q) b = true) : unl t b = false := by
  unfold unl
  rw [List.all_eq_false]
  refine ⟨q, List.mem_range.mpr (by omega), ?_⟩
  rw [Bool.not_eq_true, List.all_eq_false]
  refine ⟨p, List.mem_range.mpr hp, ?_⟩
  rw [like_sym] at h
  rw [h, decide_eq_true hq]; decide
theorem m_isTelling {b : Nat} (hX : XM mr) (hM : MM M) (hY : XT mr M) (hTn : mr 1000 3 = some M) (hg : GB t) (hW : WT t) (hR : RM mi M t) (hb : b < 8) (hp : post (some (.int (nI (bN (unl t b))))) mi ml mr dom) : CT G 2 0 0 yX13_isTelling cX13_isTelling 6 (some .boolean) [.ref 1000, .int (nI b)] mi ml mr dom post := by
  have w := hW.1
  have hge := hM.ge
  refine enter 4 (by decide) rfl rfl (fun X => ?_)
  refine j_iconst (v := nI 0) dX13_isTelling_0 (by decide) ?_
  refine j_istore_n (lv2 := [_, _, _, _, _, _]) dX13_isTelling_1 rfl (by decide) rfl rfl ?_
  skip
  have keyp : ∀ z3 z4 z5 : Option Value, J cX13_isTelling 6 yX13_isTelling.cls yX13_isTelling.name (some .boolean) 2 G X post 0 0 mi ml mr dom 2 [some (.ref 1000), some (.int (nI b)), some (.int (nI 0)), z3, z4, z5] [] := by
    refine lp (n := t 0 5) (Q := fun p => ∀ r, r < p → ∀ q, q < r → like (mks t r) (mks t q) b = false) (H := fun p => ∀ z3 z4 z5 : Option Value, J cX13_isTelling 6 yX13_isTelling.cls yX13_isTelling.name (some .boolean) 2 G X post 0 0 mi ml mr dom 2 [some (.ref 1000), some (.int (nI b)), some (.int (nI p)), z3, z4, z5] []) (fun hpp z3 z4 z5 => ?_) (fun p hp1 hpp ihp z3 z4 z5 => ?_) (fun j hj => absurd hj (by omega))
    · skip
      refine j_iload_n dX13_isTelling_2 rfl rfl ?_
      refine j_aload_n dX13_isTelling_3 rfl rfl ?_
      refine gR13_335 rfl dX13_isTelling_4 hTn ?_
      refine gI13_199 (kM0 hM) dX13_isTelling_7 ?_
      rw [hR.1 5 (by decide)]
      refine j_icmp_ge (tgt := 109) dX13_isTelling_10 (by decide) (fun h10 => ?_) (fun h10 => by exfalso; rw [nI_leI (by have := hg 0 5; omega) (by have := hg 0 5; omega)] at h10; have := hg 0 5; omega)
      refine j_iconst (v := nI 1) dX13_isTelling_109 (by decide) ?_
      refine j_zret rfl (by decide) dX13_isTelling_110 ?_
      rw [unl_t2 hpp] at hp; exact hp
    · skip
      refine j_iload_n dX13_isTelling_2 rfl rfl ?_
      refine j_aload_n dX13_isTelling_3 rfl rfl ?_
      refine gR13_335 rfl dX13_isTelling_4 hTn ?_
      refine gI13_199 (kM0 hM) dX13_isTelling_7 ?_
      rw [hR.1 5 (by decide)]
      refine j_icmp_ge (tgt := 109) dX13_isTelling_10 (by decide) (fun h10 => by exfalso; rw [nI_leI (by have := hg 0 5; omega) (by omega)] at h10; have := hg 0 5; omega) (fun h10 => ?_)
      refine j_iconst (v := nI 0) dX13_isTelling_13 (by decide) ?_
      refine j_istore_n (lv2 := [_, _, _, _, _, _]) dX13_isTelling_14 rfl (by decide) rfl rfl ?_
      have keyq : ∀ z4 z5 : Option Value, J cX13_isTelling 6 yX13_isTelling.cls yX13_isTelling.name (some .boolean) 2 G X post 0 0 mi ml mr dom 15 [some (.ref 1000), some (.int (nI b)), some (.int (nI p)), some (.int (nI 0)), z4, z5] [] := by
        refine lp (n := p) (Q := fun q => ∀ r, r < q → like (mks t p) (mks t r) b = false) (H := fun q => ∀ z4 z5 : Option Value, J cX13_isTelling 6 yX13_isTelling.cls yX13_isTelling.name (some .boolean) 2 G X post 0 0 mi ml mr dom 15 [some (.ref 1000), some (.int (nI b)), some (.int (nI p)), some (.int (nI q)), z4, z5] []) (fun hqq z4 z5 => ?_) (fun q hq1 hqq ihq z4 z5 => ?_) (fun j hj => absurd hj (by omega))
        · skip
          refine j_iload_n dX13_isTelling_15 rfl rfl ?_
          refine j_iload_n dX13_isTelling_16 rfl rfl ?_
          refine j_icmp_ge (tgt := 103) dX13_isTelling_17 (by decide) (fun h17 => ?_) (fun h17 => by exfalso; rw [nI_leI (by omega) (by omega)] at h17; omega)
          refine j_iinc1 (lv2 := [_, _, _, _, _, _]) dX13_isTelling_103 rfl (by decide) rfl rfl ?_
          rw [nI_1]
          refine j_goto (tgt := 2) dX13_isTelling_106 (by decide) ?_
          refine ihp (fun r hr => ?_) _ _ _
          by_cases e : r = p
          · subst e; exact hqq
          · exact hpp r (by omega)
        · skip
          refine j_iload_n dX13_isTelling_15 rfl rfl ?_
          refine j_iload_n dX13_isTelling_16 rfl rfl ?_
          refine j_icmp_ge (tgt := 103) dX13_isTelling_17 (by decide) (fun h17 => by exfalso; rw [nI_leI (by omega) (by omega)] at h17; omega) (fun h17 => ?_)
          refine j_iconst (v := nI 1) dX13_isTelling_20 (by decide) ?_
          refine j_istore (lv2 := [_, _, _, _, _, _]) dX13_isTelling_21 (by decide) rfl rfl ?_
          refine j_iconst (v := nI 0) dX13_isTelling_23 (by decide) ?_
          refine j_istore (lv2 := [_, _, _, _, _, _]) dX13_isTelling_24 (by decide) rfl rfl ?_
          refine lq (n := 3) (H := fun i => J cX13_isTelling 6 yX13_isTelling.cls yX13_isTelling.name (some .boolean) 2 G X post 0 0 mi ml mr dom 26 [some (.ref 1000), some (.int (nI b)), some (.int (nI p)), some (.int (nI q)), some (.int (nI (bN (alk t b p q i)))), some (.int (nI i))] []) ?_ (fun i hi ihk => ?_)
          · skip
            refine j_iload dX13_isTelling_26 rfl ?_
            refine j_iconst (v := nI 3) dX13_isTelling_28 (by decide) ?_
            refine j_icmp_ge (tgt := 90) dX13_isTelling_29 (by decide) (fun h29 => ?_) (fun h29 => by exfalso; rw [nI_leI (by omega) (by omega)] at h29; omega)
            refine j_iload dX13_isTelling_90 rfl ?_
            refine j_if_eq (tgt := 97) dX13_isTelling_92 (by decide) (fun h92 => ?_) (fun h92 => ?_)
            all_goals rw [bN_eq0] at h92
            · refine j_iinc1 (lv2 := [_, _, _, _, _, _]) dX13_isTelling_97 rfl (by decide) rfl rfl ?_
              rw [nI_1]
              refine j_goto (tgt := 15) dX13_isTelling_100 (by decide) ?_
              rw [alk_like t hb] at h92
              refine ihq (fun r hr => ?_) _ _
              by_cases e : r = q
              · subst e; exact h92
              · exact hqq r (by omega)
            · refine j_iconst (v := nI 0) dX13_isTelling_95 (by decide) ?_
              refine j_zret rfl (by decide) dX13_isTelling_96 ?_
              rw [alk_like t hb, Bool.not_eq_false] at h92
              rw [unl_f2 hp1 hq1 h92] at hp; exact hp
          · skip
            refine j_iload dX13_isTelling_26 rfl ?_
            refine j_iconst (v := nI 3) dX13_isTelling_28 (by decide) ?_
            refine j_icmp_ge (tgt := 90) dX13_isTelling_29 (by decide) (fun h29 => by exfalso; rw [nI_leI (by omega) (by omega)] at h29; omega) (fun h29 => ?_)
            refine j_iload dX13_isTelling_32 rfl ?_
            refine j_if_eq (tgt := 81) dX13_isTelling_34 (by decide) (fun h34 => ?_) (fun h34 => ?_)
            all_goals rw [bN_eq0] at h34
            · refine j_iconst (v := nI 0) dX13_isTelling_81 (by decide) ?_
              refine j_istore (lv2 := [_, _, _, _, _, _]) dX13_isTelling_82 (by decide) rfl rfl ?_
              refine j_iinc1 (lv2 := [_, _, _, _, _, _]) dX13_isTelling_84 rfl (by decide) rfl rfl ?_
              rw [nI_1]
              refine j_goto (tgt := 26) dX13_isTelling_87 (by decide) ?_
              have c1 : alk t b p q (i + 1) = false := by
                rw [alk_s]
                first
                  | (rw [h34, Bool.false_and])
                  | (rw [Bool.not_eq_false] at h43
                     rw [h43, decide_eq_false (show ¬ mks t p i = mks t q i from h74)]; simp)
              rw [c1] at ihk
              exact ihk
            · refine j_iload_n dX13_isTelling_37 rfl rfl ?_
              refine j_iload dX13_isTelling_38 rfl ?_
              refine cS13_400 (d1 := 1) dX13_isTelling_40 (by decide) (Nat.le_of_ble_eq_true rfl) ?_
              refine m_bit (by omega) (by omega) ?_
              refine j_if_eq (tgt := 77) dX13_isTelling_43 (by decide) (fun h43 => ?_) (fun h43 => ?_)
              all_goals rw [bN_eq0] at h43
              · refine j_iconst (v := nI 1) dX13_isTelling_77 (by decide) ?_
                refine j_goto (tgt := 82) dX13_isTelling_78 (by decide) ?_
                refine j_istore (lv2 := [_, _, _, _, _, _]) dX13_isTelling_82 (by decide) rfl rfl ?_
                refine j_iinc1 (lv2 := [_, _, _, _, _, _]) dX13_isTelling_84 rfl (by decide) rfl rfl ?_
                rw [nI_1]
                refine j_goto (tgt := 26) dX13_isTelling_87 (by decide) ?_
                have c1 : alk t b p q (i + 1) = true := by
                  rw [Bool.not_eq_false] at h34
                  rw [alk_s, h34]
                  first
                    | (rw [h43]; rfl)
                    | (rw [decide_eq_true (show mks t p i = mks t q i from h74), Bool.or_true]; rfl)
                rw [c1] at ihk
                exact ihk
              · refine j_aload_n dX13_isTelling_46 rfl rfl ?_
                refine gR13_335 rfl dX13_isTelling_47 hTn ?_
                refine gR13_285 (kM0 hM) dX13_isTelling_50 (xM7 hY) ?_
                refine j_iconst (v := nI 5) dX13_isTelling_53 (by decide) ?_
                refine j_iload_n dX13_isTelling_54 rfl rfl ?_
                refine j_imul dX13_isTelling_55 ?_
                rw [pk_mul]
                refine j_iload dX13_isTelling_56 rfl ?_
                refine j_iadd dX13_isTelling_58 ?_
                rw [nI_add]
                refine j_iald (kM7 hM) (inT (lM7 hM) (by show (5 * p) + i < 30; omega) (by decide)) dX13_isTelling_59 ?_
                rw [nI_clamp (by omega), rM7 hR (by show (5 * p) + i < 30; omega)]
                refine j_aload_n dX13_isTelling_60 rfl rfl ?_
                refine gR13_335 rfl dX13_isTelling_61 hTn ?_
                refine gR13_285 (kM0 hM) dX13_isTelling_64 (xM7 hY) ?_
                refine j_iconst (v := nI 5) dX13_isTelling_67 (by decide) ?_
                refine j_iload_n dX13_isTelling_68 rfl rfl ?_
                refine j_imul dX13_isTelling_69 ?_
                rw [pk_mul]
                refine j_iload dX13_isTelling_70 rfl ?_
                refine j_iadd dX13_isTelling_72 ?_
                rw [nI_add]
                refine j_iald (kM7 hM) (inT (lM7 hM) (by show (5 * q) + i < 30; omega) (by decide)) dX13_isTelling_73 ?_
                rw [nI_clamp (by omega), rM7 hR (by show (5 * q) + i < 30; omega)]
                refine j_icmp_ne (tgt := 81) dX13_isTelling_74 (by decide) (fun h74 => ?_) (fun h74 => ?_)
                all_goals rw [nI_eq (by have := hg 7 ((5 * p) + i); omega) (by have := hg 7 ((5 * q) + i); omega)] at h74
                · refine j_iconst (v := nI 0) dX13_isTelling_81 (by decide) ?_
                  refine j_istore (lv2 := [_, _, _, _, _, _]) dX13_isTelling_82 (by decide) rfl rfl ?_
                  refine j_iinc1 (lv2 := [_, _, _, _, _, _]) dX13_isTelling_84 rfl (by decide) rfl rfl ?_
                  rw [nI_1]
                  refine j_goto (tgt := 26) dX13_isTelling_87 (by decide) ?_
                  have c1 : alk t b p q (i + 1) = false := by
                    rw [alk_s]
                    first
                      | (rw [h34, Bool.false_and])
                      | (rw [Bool.not_eq_false] at h43
                         rw [h43, decide_eq_false (show ¬ mks t p i = mks t q i from h74)]; simp)
                  rw [c1] at ihk
                  exact ihk
                · refine j_iconst (v := nI 1) dX13_isTelling_77 (by decide) ?_
                  refine j_goto (tgt := 82) dX13_isTelling_78 (by decide) ?_
                  refine j_istore (lv2 := [_, _, _, _, _, _]) dX13_isTelling_82 (by decide) rfl rfl ?_
                  refine j_iinc1 (lv2 := [_, _, _, _, _, _]) dX13_isTelling_84 rfl (by decide) rfl rfl ?_
                  rw [nI_1]
                  refine j_goto (tgt := 26) dX13_isTelling_87 (by decide) ?_
                  have c1 : alk t b p q (i + 1) = true := by
                    rw [Bool.not_eq_false] at h34
                    rw [alk_s, h34]
                    first
                      | (rw [h43]; rfl)
                      | (rw [decide_eq_true (show mks t p i = mks t q i from h74), Bool.or_true]; rfl)
                  rw [c1] at ihk
                  exact ihk
      exact keyq _ _
  exact keyp none none none
/-- the best so far -/
def tsF (t : TW) : Nat → Option Nat
  | 0 => none
  | i + 1 => if unl t i = true ∧ (∀ b, tsF t i = some b → popc i < popc b) then some i else tsF t i
def oJ : Option Nat → Int32
  | none => -2
  | some p => nI p
theorem tsF_in (t : TW) : ∀ i, (tsF t i = none → ∀ j, j < i → unl t j = false) ∧ ∀ b, tsF t i = some b → b < i ∧ unl t b = true ∧ ∀ j, j < i → unl t j = true → popc b < popc j ∨ (popc b = popc j ∧ b ≤ j) := by
  intro i
  induction i with
  | zero => exact ⟨fun _ j hj => absurd hj (by omega), fun b hb => by cases hb⟩
  | succ i ih =>
    rw [tsF]
    by_cases c : unl t i = true ∧ (∀ b, tsF t i = some b → popc i < popc b)
    · rw [if_pos c]
      refine ⟨fun q => (by cases q), fun b hb => ?_⟩
      cases hb
      refine ⟨by omega, c.1, fun j hj hu => ?_⟩
      by_cases e : j = i
      · right; rw [e]; exact ⟨rfl, Nat.le_refl _⟩
      · left
        cases h : tsF t i with
        | none => exact absurd hu (by rw [ih.1 h j (by omega)]; decide)
        | some b =>
          have := (ih.2 b h).2.2 j (by omega) hu
          have := c.2 b h
          omega
    · rw [if_neg c]
      refine ⟨fun q j hj => ?_, fun b hb => ?_⟩
      · by_cases e : j = i
        · subst e
          cases hu : unl t j with
          | false => rfl
          | true => exact absurd ⟨hu, fun b hb => by rw [q] at hb; cases hb⟩ c
        · exact ih.1 q j (by omega)
      · have h := ih.2 b hb
        refine ⟨by omega, h.2.1, fun j hj hu => ?_⟩
        by_cases e : j = i
        · subst e
          have : ¬ popc j < popc b := fun q => c ⟨hu, fun b2 hb2 => by rw [hb] at hb2; cases hb2; exact q⟩
          omega
        · exact h.2.2 j (by omega) hu
theorem nI_nem2 {n : Nat} (h : n < 2 ^ 31) : ¬ nI n = -2 := fun q => absurd (show nI n < 0 by rw [q]; decide) (nI_pos h)
theorem pop3 : ∀ b, b < 8 → popc b < 4 := by decide
theorem mx_tells  (hX : XM mr) (hM : MM M) (hY : XT mr M) (hTn : mr 1000 3 = some M) (hg : GB t) (hW : WT t) (hR : RM mi M t)  (hp : (∀ a b, a < 4 → b < 8 → popc b = a → unl t b = true → (∀ a2 b2, b2 < 8 → (a2 < a ∨ a2 = a ∧ b2 < b) → popc b2 = a2 → unl t b2 = false) → post (some (.int (nI b))) (fa mi) ml mr dom) ∧ ((∀ a2 b2, a2 < 4 → b2 < 8 → popc b2 = a2 → unl t b2 = false) → post (some (.int (-2))) (fa mi) ml mr dom)) : CT G 3 0 0 yX13_tells cX13_tells 3 (some .int) [.ref 1000] mi ml mr dom post := by
  have w := hW.1
  have hge := hM.ge
  refine enter 2 (by decide) rfl rfl (fun X => ?_)
  refine j_aload_n dX13_tells_0 rfl rfl ?_
  refine j_iconst (v := nI 0) dX13_tells_1 (by decide) ?_
  refine pI13_51 rfl dX13_tells_2 ?_
  obtain ⟨m1, e1⟩ : ∃ m, m = up mi 1000 0 (nI 0) := ⟨_, rfl⟩
  rw [← e1]
  have hR1 : RM m1 M t := RM_lo hM (fun n hn => by rw [e1, up_off _ _ (by omega)]) hR
  refine j_aload_n dX13_tells_5 rfl rfl ?_
  refine gR13_335 rfl dX13_tells_6 hTn ?_
  refine j_ifnonnull (tgt := 18) dX13_tells_9 (by decide) ?_
  refine j_bipush (v := -2) dX13_tells_18 (by decide) ?_
  refine j_istore_n (lv2 := [_, _, _]) dX13_tells_20 rfl (by decide) rfl rfl ?_
  refine j_iconst (v := nI 0) dX13_tells_21 (by decide) ?_
  refine j_istore_n (lv2 := [_, _, _]) dX13_tells_22 rfl (by decide) rfl rfl ?_
  refine lq (n := 8) (H := fun i => J cX13_tells 3 yX13_tells.cls yX13_tells.name (some .int) 3 G X post 0 0 m1 ml mr dom 23 [some (.ref 1000), some (.int (oJ (tsF t i))), some (.int (nI i))] []) ?_ (fun i hi ih => ?_)
  · skip
    refine j_iload_n dX13_tells_23 rfl rfl ?_
    refine j_bipush (v := nI 8) dX13_tells_24 (by decide) ?_
    refine j_icmp_ge (tgt := 62) dX13_tells_26 (by decide) (fun h26 => ?_) (fun h26 => by exfalso; rw [nI_leI (by omega) (by omega)] at h26; omega)
    refine j_aload_n dX13_tells_62 rfl rfl ?_
    refine j_iload_n dX13_tells_63 rfl rfl ?_
    refine cV13_61 (d1 := 1) rfl dX13_tells_64 (by decide) (Nat.le_of_ble_eq_true rfl) ?_
    refine m_fair ?_
    refine j_iret rfl dX13_tells_67 ?_
    rw [e1]
    have hin := tsF_in t 8
    cases hts : tsF t 8 with
    | none => exact hp.2 (fun a2 b2 _ hb2 _ => hin.1 hts b2 hb2)
    | some b =>
      obtain ⟨b1, b2, b3⟩ := hin.2 b hts
      refine hp.1 (popc b) b (by have := pop3 b b1; omega) b1 rfl b2 (fun a2 c hc hac hpc => ?_)
      cases hu : unl t c with
      | false => rfl
      | true => have := b3 c hc hu; omega
  · cases hts : tsF t i with
    | none =>
      show J cX13_tells 3 yX13_tells.cls yX13_tells.name (some .int) 3 G X post 0 0 m1 ml mr dom 23 [some (.ref 1000), some (.int (-2)), some (.int (nI i))] []
      refine j_iload_n dX13_tells_23 rfl rfl ?_
      refine j_bipush (v := nI 8) dX13_tells_24 (by decide) ?_
      refine j_icmp_ge (tgt := 62) dX13_tells_26 (by decide) (fun h26 => by exfalso; rw [nI_leI (by omega) (by omega)] at h26; omega) (fun h26 => ?_)
      refine j_aload_n dX13_tells_29 rfl rfl ?_
      refine j_iload_n dX13_tells_30 rfl rfl ?_
      refine cV13_404 (d1 := 2) rfl dX13_tells_31 (by decide) (Nat.le_of_ble_eq_true rfl) ?_
      refine m_isTelling hX hM hY hTn hg hW hR1 (by omega) ?_
      refine j_if_eq (tgt := 56) dX13_tells_34 (by decide) (fun h34 => ?_) (fun h34 => ?_)
      all_goals rw [bN_eq0] at h34
      · refine j_iinc1 (lv2 := [_, _, _]) dX13_tells_56 rfl (by decide) rfl rfl ?_
        rw [nI_1]
        refine j_goto (tgt := 23) dX13_tells_59 (by decide) ?_
        have c1 : tsF t (i + 1) = tsF t i := if_neg (fun q => by rw [h34] at q; exact absurd q.1 (by decide))
        rw [c1, hts] at ih
        exact ih
      · refine j_iload_n dX13_tells_37 rfl rfl ?_
        refine j_bipush (v := -2) dX13_tells_38 (by decide) ?_
        refine j_icmp_eq (tgt := 54) dX13_tells_40 (by decide) (fun h40 => ?_) (fun h40 => absurd (by decide) h40)
        refine j_iload_n dX13_tells_54 rfl rfl ?_
        refine j_istore_n (lv2 := [_, _, _]) dX13_tells_55 rfl (by decide) rfl rfl ?_
        refine j_iinc1 (lv2 := [_, _, _]) dX13_tells_56 rfl (by decide) rfl rfl ?_
        rw [nI_1]
        refine j_goto (tgt := 23) dX13_tells_59 (by decide) ?_
        have c1 : tsF t (i + 1) = some i := if_pos ⟨by rw [Bool.not_eq_false] at h34; exact h34, fun b hb => by rw [hts] at hb; cases hb⟩
        rw [c1] at ih
        exact ih
    | some b =>
      have hbb : b < 8 := by have := ((tsF_in t i).2 b hts).1; omega
      show J cX13_tells 3 yX13_tells.cls yX13_tells.name (some .int) 3 G X post 0 0 m1 ml mr dom 23 [some (.ref 1000), some (.int (nI b)), some (.int (nI i))] []
      refine j_iload_n dX13_tells_23 rfl rfl ?_
      refine j_bipush (v := nI 8) dX13_tells_24 (by decide) ?_
      refine j_icmp_ge (tgt := 62) dX13_tells_26 (by decide) (fun h26 => by exfalso; rw [nI_leI (by omega) (by omega)] at h26; omega) (fun h26 => ?_)
      refine j_aload_n dX13_tells_29 rfl rfl ?_
      refine j_iload_n dX13_tells_30 rfl rfl ?_
      refine cV13_404 (d1 := 2) rfl dX13_tells_31 (by decide) (Nat.le_of_ble_eq_true rfl) ?_
      refine m_isTelling hX hM hY hTn hg hW hR1 (by omega) ?_
      refine j_if_eq (tgt := 56) dX13_tells_34 (by decide) (fun h34 => ?_) (fun h34 => ?_)
      all_goals rw [bN_eq0] at h34
      · refine j_iinc1 (lv2 := [_, _, _]) dX13_tells_56 rfl (by decide) rfl rfl ?_
        rw [nI_1]
        refine j_goto (tgt := 23) dX13_tells_59 (by decide) ?_
        have c1 : tsF t (i + 1) = tsF t i := if_neg (by first | exact (fun q => by rw [h34] at q; exact absurd q.1 (by decide)) | exact (fun q => absurd (q.2 b hts) (by omega)))
        rw [c1, hts] at ih
        exact ih
      · refine j_iload_n dX13_tells_37 rfl rfl ?_
        refine j_bipush (v := -2) dX13_tells_38 (by decide) ?_
        refine j_icmp_eq (tgt := 54) dX13_tells_40 (by decide) (fun h40 => absurd h40 (nI_nem2 (by omega))) (fun h40 => ?_)
        refine j_iload_n dX13_tells_43 rfl rfl ?_
        refine cS13_385 (d1 := 1) dX13_tells_44 (by decide) (Nat.le_of_ble_eq_true rfl) ?_
        refine m_bits (by show i < 64; omega) ?_
        refine j_iload_n dX13_tells_47 rfl rfl ?_
        refine cS13_385 (d1 := 1) dX13_tells_48 (by decide) (Nat.le_of_ble_eq_true rfl) ?_
        refine m_bits (by have := hbb; show b < 64; omega) ?_
        refine j_icmp_ge (tgt := 56) dX13_tells_51 (by decide) (fun h51 => ?_) (fun h51 => ?_)
        all_goals rw [nI_leI (by have := popc_6 b (by have := hbb; omega); omega) (by have := popc_6 i (by omega); omega)] at h51
        · refine j_iinc1 (lv2 := [_, _, _]) dX13_tells_56 rfl (by decide) rfl rfl ?_
          rw [nI_1]
          refine j_goto (tgt := 23) dX13_tells_59 (by decide) ?_
          have c1 : tsF t (i + 1) = tsF t i := if_neg (by first | exact (fun q => by rw [h34] at q; exact absurd q.1 (by decide)) | exact (fun q => absurd (q.2 b hts) (by omega)))
          rw [c1, hts] at ih
          exact ih
        · refine j_iload_n dX13_tells_54 rfl rfl ?_
          refine j_istore_n (lv2 := [_, _, _]) dX13_tells_55 rfl (by decide) rfl rfl ?_
          refine j_iinc1 (lv2 := [_, _, _]) dX13_tells_56 rfl (by decide) rfl rfl ?_
          rw [nI_1]
          refine j_goto (tgt := 23) dX13_tells_59 (by decide) ?_
          have c1 : tsF t (i + 1) = some i := if_pos ⟨by rw [Bool.not_eq_false] at h34; exact h34, fun b2 hb => by rw [hts] at hb; cases hb; omega⟩
          rw [c1] at ih
          exact ih
end M13h
