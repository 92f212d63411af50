/-! the reference: more questions with loops -/
theorem sub_e0 {a b : Nat} (ha : a < 2 ^ 31) (hb : b < 2 ^ 31) : nI a - nI b = 0 ↔ a = b := by
  constructor
  · intro h
    have : nI a = nI b := by
      have h2 := congrArg (fun z => z + nI b) h
      simp only [Int32.sub_add_cancel] at h2
      rw [h2]; exact Int32.zero_add _
    exact (nI_eq ha hb).mp this
  · intro h; rw [h]; exact Int32.sub_self _
section M13c
variable {G : GG} {post : PT} {mi : MI} {ml : ML} {mr : MR} {dom : List Nat} {M : Nat} {t : TW} {v : Nat → Nat}
theorem mx_metB {x : Int32} (hX : XM mr) (hM : MM M) (hY : XT mr M) (hTn : mr 1000 3 = some M) (hg : GB t) (hW : WT t) (hR : RM mi M t) (hb : bad x (t 0 7)) (hp : post (some (.int (-1))) (rf mi (nI 1)) ml mr dom) : CT G 3 0 0 yX13_met cX13_met 5 (some .int) [.ref 1000, .int x] mi ml mr dom post := by
  have w := hW.1
  have hge := hM.ge
  refine enter 3 (by decide) rfl rfl (fun X => ?_)
  refine j_aload_n dX13_met_0 rfl rfl ?_
  refine j_iconst (v := nI 0) dX13_met_1 (by decide) ?_
  refine pI13_51 rfl dX13_met_2 ?_
  obtain ⟨m1, e1⟩ : ∃ m, m = up mi 1000 0 (nI 0) := ⟨_, rfl⟩
  rw [← e1]
  have hR1 : RM m1 M t := RM_lo hM (fun n hn => by rw [e1, up_off _ _ (by omega)]) hR
  refine j_iload_n dX13_met_5 rfl rfl ?_
  refine j_istore_n (lv2 := [_, _, _, _, _]) dX13_met_6 rfl (by decide) rfl rfl ?_
  refine j_aload_n dX13_met_7 rfl rfl ?_
  refine j_iload_n dX13_met_8 rfl rfl ?_
  refine cV13_391 (d1 := 1) rfl dX13_met_9 (by decide) (Nat.le_of_ble_eq_true rfl) ?_
  refine m_isVisitB hX hM hY hTn hg hW hR1 hb ?_
  refine j_if_ne (tgt := 21) dX13_met_12 (by decide) (fun h12 => absurd (by decide) h12) (fun h12 => ?_)
  refine j_aload_n dX13_met_15 rfl rfl ?_
  refine j_iconst (v := nI 1) dX13_met_16 (by decide) ?_
  refine cV13_57 (d1 := 1) rfl dX13_met_17 (by decide) (Nat.le_of_ble_eq_true rfl) ?_
  refine m_refused ?_
  refine j_iret rfl dX13_met_20 ?_
  rw [e1]; exact hp
theorem mx_met {k : Nat} (hX : XM mr) (hM : MM M) (hY : XT mr M) (hTn : mr 1000 3 = some M) (hg : GB t) (hW : WT t) (hR : RM mi M t) (h1 : k < t 0 7) (hp : post (some (.int (nI (fu (fun j c => if t 12 j = t 12 k ∧ t 13 j = t 13 k then c ||| 2 ^ t 11 j else c) (t 0 7) 0)))) (fa mi) ml mr dom) : CT G 3 0 0 yX13_met cX13_met 5 (some .int) [.ref 1000, .int (nI k)] mi ml mr dom post := by
  have w := hW.1
  have hge := hM.ge
  refine enter 3 (by decide) rfl rfl (fun X => ?_)
  refine j_aload_n dX13_met_0 rfl rfl ?_
  refine j_iconst (v := nI 0) dX13_met_1 (by decide) ?_
  refine pI13_51 rfl dX13_met_2 ?_
  obtain ⟨m1, e1⟩ : ∃ m, m = up mi 1000 0 (nI 0) := ⟨_, rfl⟩
  rw [← e1]
  have hR1 : RM m1 M t := RM_lo hM (fun n hn => by rw [e1, up_off _ _ (by omega)]) hR
  refine j_iload_n dX13_met_5 rfl rfl ?_
  refine j_istore_n (lv2 := [_, _, _, _, _]) dX13_met_6 rfl (by decide) rfl rfl ?_
  refine j_aload_n dX13_met_7 rfl rfl ?_
  refine j_iload_n dX13_met_8 rfl rfl ?_
  refine cV13_391 (d1 := 1) rfl dX13_met_9 (by decide) (Nat.le_of_ble_eq_true rfl) ?_
  refine m_isVisitG hX hM hY hTn hg hW hR1 (by omega) ?_
  refine j_if_ne (tgt := 21) dX13_met_12 (by decide) (fun h12 => ?_) (fun h12 => absurd h12 (by decide))
  refine j_iconst (v := nI 0) dX13_met_21 (by decide) ?_
  refine j_istore_n (lv2 := [_, _, _, _, _]) dX13_met_22 rfl (by decide) rfl rfl ?_
  refine j_iconst (v := nI 0) dX13_met_23 (by decide) ?_
  refine j_istore (lv2 := [_, _, _, _, _]) dX13_met_24 (by decide) rfl rfl ?_
  refine lq (n := t 0 7) (H := fun i => J cX13_met 5 yX13_met.cls yX13_met.name (some .int) 3 G X post 0 0 m1 ml mr dom 26 [some (.ref 1000), some (.int (nI k)), some (.int (nI k)), some (.int (nI (fu (fun j c => if t 12 j = t 12 k ∧ t 13 j = t 13 k then c ||| 2 ^ t 11 j else c) i 0))), some (.int (nI i))] []) ?_ (fun i hi ih => ?_)
  · skip
    refine j_iload dX13_met_26 rfl ?_
    refine j_aload_n dX13_met_28 rfl rfl ?_
    refine gR13_335 rfl dX13_met_29 hTn ?_
    refine gI13_302 (kM0 hM) dX13_met_32 ?_
    rw [hR1.1 7 (by decide)]
    refine j_icmp_ge (tgt := 107) dX13_met_35 (by decide) (fun h35 => ?_) (fun h35 => by exfalso; rw [nI_leI (by have := hg 0 7; omega) (by have := hg 0 7; omega)] at h35; have := hg 0 7; omega)
    refine j_aload_n dX13_met_107 rfl rfl ?_
    refine j_iload_n dX13_met_108 rfl rfl ?_
    refine cV13_61 (d1 := 1) rfl dX13_met_109 (by decide) (Nat.le_of_ble_eq_true rfl) ?_
    refine m_fair ?_
    refine j_iret rfl dX13_met_112 ?_
    rw [e1]; exact hp
  · skip
    have q1 := hW.2.2.2.2.2.1 i hi
    refine j_iload dX13_met_26 rfl ?_
    refine j_aload_n dX13_met_28 rfl rfl ?_
    refine gR13_335 rfl dX13_met_29 hTn ?_
    refine gI13_302 (kM0 hM) dX13_met_32 ?_
    rw [hR1.1 7 (by decide)]
    refine j_icmp_ge (tgt := 107) dX13_met_35 (by decide) (fun h35 => by exfalso; rw [nI_leI (by have := hg 0 7; omega) (by omega)] at h35; have := hg 0 7; omega) (fun h35 => ?_)
    refine j_iload_n dX13_met_38 rfl rfl ?_
    refine j_aload_n dX13_met_39 rfl rfl ?_
    refine gR13_335 rfl dX13_met_40 hTn ?_
    refine gR13_310 (kM0 hM) dX13_met_43 (xM12 hY) ?_
    refine j_iload dX13_met_46 rfl ?_
    refine j_iald (kM12 hM) (inT (lM12 hM) (by show i < 8; omega) (by decide)) dX13_met_48 ?_
    rw [nI_clamp (by omega), rM12 hR1 (by show i < 8; omega)]
    refine j_aload_n dX13_met_49 rfl rfl ?_
    refine gR13_335 rfl dX13_met_50 hTn ?_
    refine gR13_310 (kM0 hM) dX13_met_53 (xM12 hY) ?_
    refine j_iload_n dX13_met_56 rfl rfl ?_
    refine j_iald (kM12 hM) (inT (lM12 hM) (by show k < 8; omega) (by decide)) dX13_met_57 ?_
    rw [nI_clamp (by omega), rM12 hR1 (by show k < 8; omega)]
    refine j_icmp_ne (tgt := 98) dX13_met_58 (by decide) (fun h58 => ?_) (fun h58 => ?_)
    all_goals rw [nI_eq (by have := hg 12 i; omega) (by have := hg 12 k; omega)] at h58
    · refine j_iconst (v := nI 0) dX13_met_98 (by decide) ?_
      refine j_ior dX13_met_99 ?_
      rw [or_0]
      refine j_istore_n (lv2 := [_, _, _, _, _]) dX13_met_100 rfl (by decide) rfl rfl ?_
      refine j_iinc1 (lv2 := [_, _, _, _, _]) dX13_met_101 rfl (by decide) rfl rfl ?_
      rw [nI_1]
      refine j_goto (tgt := 26) dX13_met_104 (by decide) ?_
      rw [fu, if_neg (by omega)] at ih
      exact ih
    · refine j_aload_n dX13_met_61 rfl rfl ?_
      refine gR13_335 rfl dX13_met_62 hTn ?_
      refine gR13_313 (kM0 hM) dX13_met_65 (xM13 hY) ?_
      refine j_iload dX13_met_68 rfl ?_
      refine j_iald (kM13 hM) (inT (lM13 hM) (by show i < 8; omega) (by decide)) dX13_met_70 ?_
      rw [nI_clamp (by omega), rM13 hR1 (by show i < 8; omega)]
      refine j_aload_n dX13_met_71 rfl rfl ?_
      refine gR13_335 rfl dX13_met_72 hTn ?_
      refine gR13_313 (kM0 hM) dX13_met_75 (xM13 hY) ?_
      refine j_iload_n dX13_met_78 rfl rfl ?_
      refine j_iald (kM13 hM) (inT (lM13 hM) (by show k < 8; omega) (by decide)) dX13_met_79 ?_
      rw [nI_clamp (by omega), rM13 hR1 (by show k < 8; omega)]
      refine j_icmp_ne (tgt := 98) dX13_met_80 (by decide) (fun h80 => ?_) (fun h80 => ?_)
      all_goals rw [nI_eq (by have := hg 13 i; omega) (by have := hg 13 k; omega)] at h80
      · refine j_iconst (v := nI 0) dX13_met_98 (by decide) ?_
        refine j_ior dX13_met_99 ?_
        rw [or_0]
        refine j_istore_n (lv2 := [_, _, _, _, _]) dX13_met_100 rfl (by decide) rfl rfl ?_
        refine j_iinc1 (lv2 := [_, _, _, _, _]) dX13_met_101 rfl (by decide) rfl rfl ?_
        rw [nI_1]
        refine j_goto (tgt := 26) dX13_met_104 (by decide) ?_
        rw [fu, if_neg (by omega)] at ih
        exact ih
      · refine j_iconst (v := nI 1) dX13_met_83 (by decide) ?_
        refine j_aload_n dX13_met_84 rfl rfl ?_
        refine gR13_335 rfl dX13_met_85 hTn ?_
        refine gR13_307 (kM0 hM) dX13_met_88 (xM11 hY) ?_
        refine j_iload dX13_met_91 rfl ?_
        refine j_iald (kM11 hM) (inT (lM11 hM) (by show i < 8; omega) (by decide)) dX13_met_93 ?_
        rw [nI_clamp (by omega), rM11 hR1 (by show i < 8; omega)]
        refine j_ishl dX13_met_94 ?_
        refine j_goto (tgt := 99) dX13_met_95 (by decide) ?_
        refine j_ior dX13_met_99 ?_
        rw [bit_or _ (by have := met_lt (k := k) w.2.2.2.2.2.1 (fun j hj => (hW.2.2.2.2.2.1 j hj).1) i (show i ≤ t 0 7 by omega); show fu (fun j c => if t 12 j = t 12 k ∧ t 13 j = t 13 k then c ||| 2 ^ t 11 j else c) i 0 < 256; omega) _ (by have := hg 11 i; show t 11 i < 8; omega)]
        refine j_istore_n (lv2 := [_, _, _, _, _]) dX13_met_100 rfl (by decide) rfl rfl ?_
        refine j_iinc1 (lv2 := [_, _, _, _, _]) dX13_met_101 rfl (by decide) rfl rfl ?_
        rw [nI_1]
        refine j_goto (tgt := 26) dX13_met_104 (by decide) ?_
        rw [fu, if_pos ⟨h58, h80⟩] at ih
        exact ih
theorem mx_leastSill  (hX : XM mr) (hM : MM M) (hY : XT mr M) (hTn : mr 1000 3 = some M) (hg : GB t) (hW : WT t) (hR : RM mi M t)  (hp : (∀ s, 10 ≤ s → s ≤ 59 → sm (fun k => fiA t k s) (t 0 7) = 0 → (∀ j, 10 ≤ j → j < s → ¬ sm (fun k => fiA t k j) (t 0 7) = 0) → post (some (.int (nI s))) (fa mi) ml mr dom) ∧ ((∀ j, 10 ≤ j → j ≤ 59 → ¬ sm (fun k => fiA t k j) (t 0 7) = 0) → post (some (.int (-2))) (fa mi) ml mr dom)) : CT G 5 0 0 yX13_leastSill cX13_leastSill 2 (some .int) [.ref 1000] mi ml mr dom post := by
  have w := hW.1
  have hge := hM.ge
  refine enter 1 (by decide) rfl rfl (fun X => ?_)
  refine j_aload_n dX13_leastSill_0 rfl rfl ?_
  refine j_iconst (v := nI 0) dX13_leastSill_1 (by decide) ?_
  refine pI13_51 rfl dX13_leastSill_2 ?_
  obtain ⟨m1, e1⟩ : ∃ m, m = up mi 1000 0 (nI 0) := ⟨_, rfl⟩
  rw [← e1]
  have hR1 : RM m1 M t := RM_lo hM (fun n hn => by rw [e1, up_off _ _ (by omega)]) hR
  refine j_aload_n dX13_leastSill_5 rfl rfl ?_
  refine gR13_335 rfl dX13_leastSill_6 hTn ?_
  refine j_ifnonnull (tgt := 18) dX13_leastSill_9 (by decide) ?_
  refine j_bipush (v := nI 10) dX13_leastSill_18 (by decide) ?_
  refine j_istore_n (lv2 := [_, _]) dX13_leastSill_20 rfl (by decide) rfl rfl ?_
  refine lp (n := 50) (Q := fun i => ∀ j, j < i → ¬ sm (fun k => fiA t k (10 + j)) (t 0 7) = 0) (H := fun i => J cX13_leastSill 2 yX13_leastSill.cls yX13_leastSill.name (some .int) 5 G X post 0 0 m1 ml mr dom 21 [some (.ref 1000), some (.int (nI (10 + i)))] []) (fun hq => ?_) (fun i hi hq ih => ?_) (fun j hj => absurd hj (by omega))
  · skip
    refine j_iload_n dX13_leastSill_21 rfl rfl ?_
    refine j_bipush (v := nI 59) dX13_leastSill_22 (by decide) ?_
    refine j_icmp_gt (tgt := 47) dX13_leastSill_24 (by decide) (fun h24 => ?_) (fun h24 => by exfalso; rw [nI_ltI (by omega) (by omega)] at h24; omega)
    refine j_aload_n dX13_leastSill_47 rfl rfl ?_
    refine j_bipush (v := -2) dX13_leastSill_48 (by decide) ?_
    refine cV13_61 (d1 := 1) rfl dX13_leastSill_50 (by decide) (Nat.le_of_ble_eq_true rfl) ?_
    refine m_fair ?_
    refine j_iret rfl dX13_leastSill_53 ?_
    rw [e1]; exact hp.2 (fun j h1 h2 => by have := hq (j - 10) (by omega); rw [show 10 + (j - 10) = j by omega] at this; exact this)
  · skip
    refine j_iload_n dX13_leastSill_21 rfl rfl ?_
    refine j_bipush (v := nI 59) dX13_leastSill_22 (by decide) ?_
    refine j_icmp_gt (tgt := 47) dX13_leastSill_24 (by decide) (fun h24 => by exfalso; rw [nI_ltI (by omega) (by omega)] at h24; omega) (fun h24 => ?_)
    refine j_aload_n dX13_leastSill_27 rfl rfl ?_
    refine j_iload_n dX13_leastSill_28 rfl rfl ?_
    refine cV13_407 (d1 := 4) rfl dX13_leastSill_29 (by decide) (Nat.le_of_ble_eq_true rfl) ?_
    refine m_finesBy hX hM hY hTn hg hW hR1 (by omega) ?_
    refine j_if_ne (tgt := 41) dX13_leastSill_32 (by decide) (fun h32 => ?_) (fun h32 => ?_)
    all_goals rw [show (0 : Int32) = nI 0 from rfl, nI_eq (by have := sm_le (f := fun k => fiA t k (10 + i)) (b := 50000) (t 0 7) (fun j _ => fiA_le hg j (10 + i)); omega) (by decide)] at h32
    · refine j_iinc1 (lv2 := [_, _]) dX13_leastSill_41 rfl (by decide) rfl rfl ?_
      rw [nI_1]
      refine j_goto (tgt := 21) dX13_leastSill_44 (by decide) ?_
      rw [show 10 + i + 1 = 10 + (i + 1) by omega]
      refine ih (fun j hj => ?_)
      by_cases q : j = i
      · subst q; exact h32
      · exact hq j (by omega)
    · refine j_aload_n dX13_leastSill_35 rfl rfl ?_
      refine j_iload_n dX13_leastSill_36 rfl rfl ?_
      refine cV13_61 (d1 := 1) rfl dX13_leastSill_37 (by decide) (Nat.le_of_ble_eq_true rfl) ?_
      refine m_fair ?_
      refine j_iret rfl dX13_leastSill_40 ?_
      rw [e1]; exact hp.1 (10 + i) (by omega) (by omega) h32 (fun j h1 h2 => by have := hq (j - 10) (by omega); rw [show 10 + (j - 10) = j by omega] at this; exact this)
theorem popO (h s : Nat) : popc (2 ^ over h s - 1) = over h s := by
  have : over h s ≤ 3 := over_le h s
  have : over h s = 0 ∨ over h s = 1 ∨ over h s = 2 ∨ over h s = 3 := by omega
  rcases this with q | q | q | q <;> rw [q] <;> decide
theorem m_has {x y : Nat} (hX : XM mr) (hM : MM M) (hY : XT mr M) (hTn : mr 1000 3 = some M) (hg : GB t) (hW : WT t) (hR : RM mi M t) (hx : x < 6) (hy : y < 6) (hp : post (some (.int (nI (gain t x y)))) mi ml mr dom) : CT G 2 0 0 yX13_has cX13_has 7 (some .int) [.ref 1000, .int (nI x), .int (nI y)] mi ml mr dom post := by
  have w := hW.1
  have hge := hM.ge
  refine enter 4 (by decide) rfl rfl (fun X => ?_)
  refine j_iconst (v := nI 0) dX13_has_0 (by decide) ?_
  refine j_istore_n (lv2 := [_, _, _, _, _, _, _]) dX13_has_1 rfl (by decide) rfl rfl ?_
  refine j_iconst (v := nI 0) dX13_has_2 (by decide) ?_
  refine j_istore (lv2 := [_, _, _, _, _, _, _]) dX13_has_3 (by decide) rfl rfl ?_
  refine j_iconst (v := nI 0) dX13_has_5 (by decide) ?_
  refine j_istore (lv2 := [_, _, _, _, _, _, _]) dX13_has_6 (by decide) rfl rfl ?_
  refine lq (n := t 0 5) (H := fun i => ∀ z6 : Option Value, J cX13_has 7 yX13_has.cls yX13_has.name (some .int) 2 G X post 0 0 mi ml mr dom 8 [some (.ref 1000), some (.int (nI x)), some (.int (nI y)), some (.int (nI (cnt (cmr t x y) i))), some (.int (nI (cnt (wvr t x y) i))), some (.int (nI i)), z6] []) (fun z6 => ?_) (fun i hi ih z6 => ?_) none
  · skip
    refine j_iload dX13_has_8 rfl ?_
    refine j_aload_n dX13_has_10 rfl rfl ?_
    refine gR13_335 rfl dX13_has_11 hTn ?_
    refine gI13_199 (kM0 hM) dX13_has_14 ?_
    rw [hR.1 5 (by decide)]
    refine j_icmp_ge (tgt := 83) dX13_has_17 (by decide) (fun h17 => ?_) (fun h17 => by exfalso; rw [nI_leI (by have := hg 0 5; omega) (by have := hg 0 5; omega)] at h17; have := hg 0 5; omega)
    refine j_iconst (v := nI 3) dX13_has_83 (by decide) ?_
    refine j_iload_n dX13_has_84 rfl rfl ?_
    refine j_iload dX13_has_85 rfl ?_
    refine j_iconst (v := nI 2) dX13_has_87 (by decide) ?_
    refine j_idiv dX13_has_88 (by decide) ?_
    rw [pk_div (by have := cnt_le (wvr t x y) (t 0 5); omega) (by show 0 < 2; omega) (by omega)]
    refine j_iadd dX13_has_89 ?_
    rw [nI_add]
    refine j_imul dX13_has_90 ?_
    rw [pk_mul]
    refine j_iconst (v := nI 2) dX13_has_91 (by decide) ?_
    refine j_iload_n dX13_has_92 rfl rfl ?_
    refine j_imul dX13_has_93 ?_
    rw [pk_mul]
    refine j_iadd dX13_has_94 ?_
    rw [nI_add]
    refine j_iret rfl dX13_has_95 ?_
    exact hp
  · skip
    refine j_iload dX13_has_8 rfl ?_
    refine j_aload_n dX13_has_10 rfl rfl ?_
    refine gR13_335 rfl dX13_has_11 hTn ?_
    refine gI13_199 (kM0 hM) dX13_has_14 ?_
    rw [hR.1 5 (by decide)]
    refine j_icmp_ge (tgt := 83) dX13_has_17 (by decide) (fun h17 => by exfalso; rw [nI_leI (by have := hg 0 5; omega) (by omega)] at h17; have := hg 0 5; omega) (fun h17 => ?_)
    refine j_aload_n dX13_has_20 rfl rfl ?_
    refine gR13_335 rfl dX13_has_21 hTn ?_
    refine j_iload dX13_has_24 rfl ?_
    refine j_bipush (v := nI 10) dX13_has_26 (by decide) ?_
    refine j_bipush (v := nI 10) dX13_has_28 (by decide) ?_
    refine j_iload_n dX13_has_30 rfl rfl ?_
    refine j_imul dX13_has_31 ?_
    rw [pk_mul]
    refine j_iadd dX13_has_32 ?_
    rw [nI_add]
    refine cV13_467 (d1 := 1) (kM0 hM) dX13_has_33 (by decide) (Nat.le_of_ble_eq_true rfl) ?_
    refine m_above hM hY hg hW hR (by omega) (by omega) ?_
    refine cS13_385 (d1 := 1) dX13_has_36 (by decide) (Nat.le_of_ble_eq_true rfl) ?_
    refine m_bits (by have := over8 (t 6 i) (10 + (10 * x)); show 2 ^ over (t 6 i) (10 + (10 * x)) - 1 < 64; omega) ?_
    rw [popO]
    refine j_aload_n dX13_has_39 rfl rfl ?_
    refine gR13_335 rfl dX13_has_40 hTn ?_
    refine j_iload dX13_has_43 rfl ?_
    refine j_bipush (v := nI 10) dX13_has_45 (by decide) ?_
    refine j_bipush (v := nI 10) dX13_has_47 (by decide) ?_
    refine j_iload_n dX13_has_49 rfl rfl ?_
    refine j_imul dX13_has_50 ?_
    rw [pk_mul]
    refine j_iadd dX13_has_51 ?_
    rw [nI_add]
    refine cV13_467 (d1 := 1) (kM0 hM) dX13_has_52 (by decide) (Nat.le_of_ble_eq_true rfl) ?_
    refine m_above hM hY hg hW hR (by omega) (by omega) ?_
    refine cS13_385 (d1 := 1) dX13_has_55 (by decide) (Nat.le_of_ble_eq_true rfl) ?_
    refine m_bits (by have := over8 (t 6 i) (10 + (10 * y)); show 2 ^ over (t 6 i) (10 + (10 * y)) - 1 < 64; omega) ?_
    rw [popO]
    refine j_isub dX13_has_58 ?_
    refine j_istore (lv2 := [_, _, _, _, _, _, _]) dX13_has_59 (by decide) rfl rfl ?_
    refine j_iload dX13_has_61 rfl ?_
    refine j_if_le (tgt := 69) dX13_has_63 (by decide) (fun h63 => ?_) (fun h63 => ?_)
    all_goals rw [show (0 : Int32) = nI 0 from rfl, nI_subLe (by have := over_le (t 6 i) (10 + (10 * x)); omega) (by have := over_le (t 6 i) (10 + (10 * y)); omega) (by decide)] at h63
    · refine j_iload dX13_has_69 rfl ?_
      refine j_if_ne (tgt := 77) dX13_has_71 (by decide) (fun h71 => ?_) (fun h71 => ?_)
      all_goals rw [sub_e0 (by have := over_le (t 6 i) (10 + (10 * x)); omega) (by have := over_le (t 6 i) (10 + (10 * y)); omega)] at h71
      · refine j_iinc1 (lv2 := [_, _, _, _, _, _, _]) dX13_has_77 rfl (by decide) rfl rfl ?_
        rw [nI_1]
        refine j_goto (tgt := 8) dX13_has_80 (by decide) ?_
        have c_cmr : cnt (cmr t x y) (i + 1) = cnt (cmr t x y) i := if_neg (fun q => absurd (of_decide_eq_true q) (by omega))
        have c_wvr : cnt (wvr t x y) (i + 1) = cnt (wvr t x y) i := if_neg (fun q => absurd (of_decide_eq_true q) (by omega))
        rw [c_cmr, c_wvr] at ih
        exact ih _
      · refine j_iinc1 (lv2 := [_, _, _, _, _, _, _]) dX13_has_74 rfl (by decide) rfl rfl ?_
        rw [nI_1]
        refine j_iinc1 (lv2 := [_, _, _, _, _, _, _]) dX13_has_77 rfl (by decide) rfl rfl ?_
        rw [nI_1]
        refine j_goto (tgt := 8) dX13_has_80 (by decide) ?_
        have c_cmr : cnt (cmr t x y) (i + 1) = cnt (cmr t x y) i := if_neg (fun q => absurd (of_decide_eq_true q) (by omega))
        have c_wvr : cnt (wvr t x y) (i + 1) = cnt (wvr t x y) i + 1 := if_pos (decide_eq_true (by omega))
        rw [c_cmr, c_wvr] at ih
        exact ih _
    · refine j_iinc1 (lv2 := [_, _, _, _, _, _, _]) dX13_has_66 rfl (by decide) rfl rfl ?_
      rw [nI_1]
      refine j_iload dX13_has_69 rfl ?_
      refine j_if_ne (tgt := 77) dX13_has_71 (by decide) (fun h71 => ?_) (fun h71 => ?_)
      all_goals rw [sub_e0 (by have := over_le (t 6 i) (10 + (10 * x)); omega) (by have := over_le (t 6 i) (10 + (10 * y)); omega)] at h71
      · refine j_iinc1 (lv2 := [_, _, _, _, _, _, _]) dX13_has_77 rfl (by decide) rfl rfl ?_
        rw [nI_1]
        refine j_goto (tgt := 8) dX13_has_80 (by decide) ?_
        have c_cmr : cnt (cmr t x y) (i + 1) = cnt (cmr t x y) i + 1 := if_pos (decide_eq_true (by omega))
        have c_wvr : cnt (wvr t x y) (i + 1) = cnt (wvr t x y) i := if_neg (fun q => absurd (of_decide_eq_true q) (by omega))
        rw [c_cmr, c_wvr] at ih
        exact ih _
      · refine j_iinc1 (lv2 := [_, _, _, _, _, _, _]) dX13_has_74 rfl (by decide) rfl rfl ?_
        rw [nI_1]
        refine j_iinc1 (lv2 := [_, _, _, _, _, _, _]) dX13_has_77 rfl (by decide) rfl rfl ?_
        rw [nI_1]
        refine j_goto (tgt := 8) dX13_has_80 (by decide) ?_
        exfalso; omega
theorem gain_l2 {t : TW} (hW : WT t) {x y : Nat} (hx : x < 6) : gain t x y ≤ 40 := by
  have w := hW.1
  have h1 := cnt_le (cmr t x y) (t 0 5)
  have h2 := cnt_le (wvr t x y) (t 0 5)
  unfold gain; omega
theorem mx_shopN {x y z : Int32} (hTn : mr 1000 3 = none)  (hp : post (some (.int (-100))) (rf mi (nI 1)) ml mr dom) : CT G 3 0 0 yX13_shop cX13_shop 4 (some .int) [.ref 1000, .int x, .int y, .int z] mi ml mr dom post := by
  refine enter 0 (by decide) rfl rfl (fun X => ?_)
  refine j_aload_n dX13_shop_0 rfl rfl ?_
  refine j_iconst (v := nI 0) dX13_shop_1 (by decide) ?_
  refine pI13_51 rfl dX13_shop_2 ?_
  obtain ⟨m1, e1⟩ : ∃ m, m = up mi 1000 0 (nI 0) := ⟨_, rfl⟩
  rw [← e1]
  refine j_aload_n dX13_shop_5 rfl rfl ?_
  refine gN13_335 rfl dX13_shop_6 hTn ?_
  refine j_ifnonnullN dX13_shop_9 ?_
  refine j_aload_n dX13_shop_12 rfl rfl ?_
  refine j_iconst (v := nI 1) dX13_shop_13 (by decide) ?_
  refine cV13_470 (d1 := 2) rfl dX13_shop_14 (by decide) (Nat.le_of_ble_eq_true rfl) ?_
  refine m_lost ?_
  refine j_iret rfl dX13_shop_17 ?_
  rw [e1]; exact hp
theorem mx_shopB {x y z : Int32} (hX : XM mr) (hM : MM M) (hY : XT mr M) (hTn : mr 1000 3 = some M) (hg : GB t) (hW : WT t) (hR : RM mi M t) (hb : bad x 6) (hp : post (some (.int (-100))) (rf mi (nI 2)) ml mr dom) : CT G 3 0 0 yX13_shop cX13_shop 4 (some .int) [.ref 1000, .int x, .int y, .int z] mi ml mr dom post := by
  have w := hW.1
  have hge := hM.ge
  refine enter 0 (by decide) rfl rfl (fun X => ?_)
  refine j_aload_n dX13_shop_0 rfl rfl ?_
  refine j_iconst (v := nI 0) dX13_shop_1 (by decide) ?_
  refine pI13_51 rfl dX13_shop_2 ?_
  obtain ⟨m1, e1⟩ : ∃ m, m = up mi 1000 0 (nI 0) := ⟨_, rfl⟩
  rw [← e1]
  have hR1 : RM m1 M t := RM_lo hM (fun n hn => by rw [e1, up_off _ _ (by omega)]) hR
  refine j_aload_n dX13_shop_5 rfl rfl ?_
  refine gR13_335 rfl dX13_shop_6 hTn ?_
  refine j_ifnonnull (tgt := 18) dX13_shop_9 (by decide) ?_
  refine j_iload_n dX13_shop_18 rfl rfl ?_
  refine j_iconst (v := nI 0) dX13_shop_19 (by decide) ?_
  refine j_iconst (v := nI 5) dX13_shop_20 (by decide) ?_
  refine cS13_129 (d1 := 1) dX13_shop_21 (by decide) (Nat.le_of_ble_eq_true rfl) ?_
  refine m_inB (bad_in (n := 6) (by decide) (by decide) hb) ?_
  refine j_if_eq (tgt := 36) dX13_shop_24 (by decide) (fun h24 => ?_) (fun h24 => absurd (by decide) h24)
  refine j_aload_n dX13_shop_36 rfl rfl ?_
  refine j_iconst (v := nI 2) dX13_shop_37 (by decide) ?_
  refine cV13_470 (d1 := 2) rfl dX13_shop_38 (by decide) (Nat.le_of_ble_eq_true rfl) ?_
  refine m_lost ?_
  refine j_iret rfl dX13_shop_41 ?_
  rw [e1]; exact hp
theorem mx_shopB2 {x : Nat} {y z : Int32} (hX : XM mr) (hM : MM M) (hY : XT mr M) (hTn : mr 1000 3 = some M) (hg : GB t) (hW : WT t) (hR : RM mi M t) (h1 : x < 6) (hb : bad y 6) (hp : post (some (.int (-100))) (rf mi (nI 2)) ml mr dom) : CT G 3 0 0 yX13_shop cX13_shop 4 (some .int) [.ref 1000, .int (nI x), .int y, .int z] mi ml mr dom post := by
  have w := hW.1
  have hge := hM.ge
  refine enter 0 (by decide) rfl rfl (fun X => ?_)
  refine j_aload_n dX13_shop_0 rfl rfl ?_
  refine j_iconst (v := nI 0) dX13_shop_1 (by decide) ?_
  refine pI13_51 rfl dX13_shop_2 ?_
  obtain ⟨m1, e1⟩ : ∃ m, m = up mi 1000 0 (nI 0) := ⟨_, rfl⟩
  rw [← e1]
  have hR1 : RM m1 M t := RM_lo hM (fun n hn => by rw [e1, up_off _ _ (by omega)]) hR
  refine j_aload_n dX13_shop_5 rfl rfl ?_
  refine gR13_335 rfl dX13_shop_6 hTn ?_
  refine j_ifnonnull (tgt := 18) dX13_shop_9 (by decide) ?_
  refine j_iload_n dX13_shop_18 rfl rfl ?_
  refine j_iconst (v := nI 0) dX13_shop_19 (by decide) ?_
  refine j_iconst (v := nI 5) dX13_shop_20 (by decide) ?_
  refine cS13_129 (d1 := 1) dX13_shop_21 (by decide) (Nat.le_of_ble_eq_true rfl) ?_
  refine m_inG (by show 0 ≤ x; omega) (by show x ≤ 5; omega) (by decide) ?_
  refine j_if_eq (tgt := 36) dX13_shop_24 (by decide) (fun h24 => absurd h24 (by decide)) (fun h24 => ?_)
  refine j_iload_n dX13_shop_27 rfl rfl ?_
  refine j_iconst (v := nI 0) dX13_shop_28 (by decide) ?_
  refine j_iconst (v := nI 5) dX13_shop_29 (by decide) ?_
  refine cS13_129 (d1 := 1) dX13_shop_30 (by decide) (Nat.le_of_ble_eq_true rfl) ?_
  refine m_inB (bad_in (n := 6) (by decide) (by decide) hb) ?_
  refine j_if_ne (tgt := 42) dX13_shop_33 (by decide) (fun h33 => absurd (by decide) h33) (fun h33 => ?_)
  refine j_aload_n dX13_shop_36 rfl rfl ?_
  refine j_iconst (v := nI 2) dX13_shop_37 (by decide) ?_
  refine cV13_470 (d1 := 2) rfl dX13_shop_38 (by decide) (Nat.le_of_ble_eq_true rfl) ?_
  refine m_lost ?_
  refine j_iret rfl dX13_shop_41 ?_
  rw [e1]; exact hp
theorem mx_shop0 {x y : Nat} (hX : XM mr) (hM : MM M) (hY : XT mr M) (hTn : mr 1000 3 = some M) (hg : GB t) (hW : WT t) (hR : RM mi M t) (h1 : x < 6) (h2 : y < 6) (hp : post (some (.int (nI (gain t x y)))) (fa mi) ml mr dom) : CT G 3 0 0 yX13_shop cX13_shop 4 (some .int) [.ref 1000, .int (nI x), .int (nI y), .int 0] mi ml mr dom post := by
  have w := hW.1
  have hge := hM.ge
  refine enter 0 (by decide) rfl rfl (fun X => ?_)
  refine j_aload_n dX13_shop_0 rfl rfl ?_
  refine j_iconst (v := nI 0) dX13_shop_1 (by decide) ?_
  refine pI13_51 rfl dX13_shop_2 ?_
  obtain ⟨m1, e1⟩ : ∃ m, m = up mi 1000 0 (nI 0) := ⟨_, rfl⟩
  rw [← e1]
  have hR1 : RM m1 M t := RM_lo hM (fun n hn => by rw [e1, up_off _ _ (by omega)]) hR
  refine j_aload_n dX13_shop_5 rfl rfl ?_
  refine gR13_335 rfl dX13_shop_6 hTn ?_
  refine j_ifnonnull (tgt := 18) dX13_shop_9 (by decide) ?_
  refine j_iload_n dX13_shop_18 rfl rfl ?_
  refine j_iconst (v := nI 0) dX13_shop_19 (by decide) ?_
  refine j_iconst (v := nI 5) dX13_shop_20 (by decide) ?_
  refine cS13_129 (d1 := 1) dX13_shop_21 (by decide) (Nat.le_of_ble_eq_true rfl) ?_
  refine m_inG (by show 0 ≤ x; omega) (by show x ≤ 5; omega) (by decide) ?_
  refine j_if_eq (tgt := 36) dX13_shop_24 (by decide) (fun h24 => absurd h24 (by decide)) (fun h24 => ?_)
  refine j_iload_n dX13_shop_27 rfl rfl ?_
  refine j_iconst (v := nI 0) dX13_shop_28 (by decide) ?_
  refine j_iconst (v := nI 5) dX13_shop_29 (by decide) ?_
  refine cS13_129 (d1 := 1) dX13_shop_30 (by decide) (Nat.le_of_ble_eq_true rfl) ?_
  refine m_inG (by show 0 ≤ y; omega) (by show y ≤ 5; omega) (by decide) ?_
  refine j_if_ne (tgt := 42) dX13_shop_33 (by decide) (fun h33 => ?_) (fun h33 => absurd h33 (by decide))
  refine j_aload_n dX13_shop_42 rfl rfl ?_
  refine j_iload_n dX13_shop_43 rfl rfl ?_
  refine j_if_eq (tgt := 56) dX13_shop_44 (by decide) (fun h44 => ?_) (fun h44 => absurd (by decide) h44)
  refine j_aload_n dX13_shop_56 rfl rfl ?_
  refine j_iload_n dX13_shop_57 rfl rfl ?_
  refine j_iload_n dX13_shop_58 rfl rfl ?_
  refine cV13_473 (d1 := 2) rfl dX13_shop_59 (by decide) (Nat.le_of_ble_eq_true rfl) ?_
  refine m_has hX hM hY hTn hg hW hR1 (by omega) (by omega) ?_
  refine cV13_61 (d1 := 1) rfl dX13_shop_62 (by decide) (Nat.le_of_ble_eq_true rfl) ?_
  refine m_fair ?_
  refine j_iret rfl dX13_shop_65 ?_
  rw [e1]; exact hp
theorem mx_shop1 {x y : Nat} (hX : XM mr) (hM : MM M) (hY : XT mr M) (hTn : mr 1000 3 = some M) (hg : GB t) (hW : WT t) (hR : RM mi M t) (h1 : x < 6) (h2 : y < 6) (hp : post (some (.int (nI (gain t y x)))) (fa mi) ml mr dom) : CT G 3 0 0 yX13_shop cX13_shop 4 (some .int) [.ref 1000, .int (nI x), .int (nI y), .int 1] mi ml mr dom post := by
  have w := hW.1
  have hge := hM.ge
  refine enter 0 (by decide) rfl rfl (fun X => ?_)
  refine j_aload_n dX13_shop_0 rfl rfl ?_
  refine j_iconst (v := nI 0) dX13_shop_1 (by decide) ?_
  refine pI13_51 rfl dX13_shop_2 ?_
  obtain ⟨m1, e1⟩ : ∃ m, m = up mi 1000 0 (nI 0) := ⟨_, rfl⟩
  rw [← e1]
  have hR1 : RM m1 M t := RM_lo hM (fun n hn => by rw [e1, up_off _ _ (by omega)]) hR
  refine j_aload_n dX13_shop_5 rfl rfl ?_
  refine gR13_335 rfl dX13_shop_6 hTn ?_
  refine j_ifnonnull (tgt := 18) dX13_shop_9 (by decide) ?_
  refine j_iload_n dX13_shop_18 rfl rfl ?_
  refine j_iconst (v := nI 0) dX13_shop_19 (by decide) ?_
  refine j_iconst (v := nI 5) dX13_shop_20 (by decide) ?_
  refine cS13_129 (d1 := 1) dX13_shop_21 (by decide) (Nat.le_of_ble_eq_true rfl) ?_
  refine m_inG (by show 0 ≤ x; omega) (by show x ≤ 5; omega) (by decide) ?_
  refine j_if_eq (tgt := 36) dX13_shop_24 (by decide) (fun h24 => absurd h24 (by decide)) (fun h24 => ?_)
  refine j_iload_n dX13_shop_27 rfl rfl ?_
  refine j_iconst (v := nI 0) dX13_shop_28 (by decide) ?_
  refine j_iconst (v := nI 5) dX13_shop_29 (by decide) ?_
  refine cS13_129 (d1 := 1) dX13_shop_30 (by decide) (Nat.le_of_ble_eq_true rfl) ?_
  refine m_inG (by show 0 ≤ y; omega) (by show y ≤ 5; omega) (by decide) ?_
  refine j_if_ne (tgt := 42) dX13_shop_33 (by decide) (fun h33 => ?_) (fun h33 => absurd h33 (by decide))
  refine j_aload_n dX13_shop_42 rfl rfl ?_
  refine j_iload_n dX13_shop_43 rfl rfl ?_
  refine j_if_eq (tgt := 56) dX13_shop_44 (by decide) (fun h44 => absurd h44 (by decide)) (fun h44 => ?_)
  refine j_aload_n dX13_shop_47 rfl rfl ?_
  refine j_iload_n dX13_shop_48 rfl rfl ?_
  refine j_iload_n dX13_shop_49 rfl rfl ?_
  refine cV13_473 (d1 := 2) rfl dX13_shop_50 (by decide) (Nat.le_of_ble_eq_true rfl) ?_
  refine m_has hX hM hY hTn hg hW hR1 (by omega) (by omega) ?_
  refine j_goto (tgt := 62) dX13_shop_53 (by decide) ?_
  refine cV13_61 (d1 := 1) rfl dX13_shop_62 (by decide) (Nat.le_of_ble_eq_true rfl) ?_
  refine m_fair ?_
  refine j_iret rfl dX13_shop_65 ?_
  rw [e1]; exact hp
theorem mst_ge (t : TW) (y : Nat) : ∀ n j, j < n → gain t j y ≤ mst t y n := by
  intro n
  induction n with
  | zero => intro j hj; omega
  | succ n ih =>
    intro j hj
    rw [mst]
    by_cases q : j = n
    · subst q; exact Nat.le_max_right _ _
    · exact Nat.le_trans (ih j (by omega)) (Nat.le_max_left _ _)
theorem mst_lub (t : TW) (y g : Nat) : ∀ n, (∀ j, j < n → gain t j y ≤ g) → mst t y n ≤ g := by
  intro n
  induction n with
  | zero => intro _; exact Nat.zero_le _
  | succ n ih => intro h; rw [mst]; exact Nat.max_le.mpr ⟨ih (fun j hj => h j (by omega)), h n (by omega)⟩
theorem rst_t {t : TW} {x y : Nat} (hx : x < 6) (hy : y < 6) (h : ∀ j, j < 6 → gain t j y ≤ gain t x y ∧ gain t j x ≤ gain t y x) : rst t x y = true := by
  unfold rst
  rw [decide_eq_true (Nat.le_antisymm (mst_ge t y 6 x hx) (mst_lub t y _ 6 (fun j hj => (h j hj).1))), decide_eq_true (Nat.le_antisymm (mst_ge t x 6 y hy) (mst_lub t x _ 6 (fun j hj => (h j hj).2)))]; rfl
theorem rst_f {t : TW} {x y j : Nat} (hj : j < 6) (h : ¬ (gain t j y ≤ gain t x y ∧ gain t j x ≤ gain t y x)) : rst t x y = false := by
  unfold rst
  by_cases q : gain t j y ≤ gain t x y
  · have q2 : ¬ gain t j x ≤ gain t y x := fun z => h ⟨q, z⟩
    rw [decide_eq_false (p := gain t y x = mst t x 6) (fun z => q2 (z ▸ mst_ge t x 6 j hj)), Bool.and_false]
  · rw [decide_eq_false (p := gain t x y = mst t y 6) (fun z => q (z ▸ mst_ge t y 6 j hj)), Bool.false_and]
theorem m_isRest {x y : Nat} (hX : XM mr) (hM : MM M) (hY : XT mr M) (hTn : mr 1000 3 = some M) (hg : GB t) (hW : WT t) (hR : RM mi M t) (hx : x < 6) (hy : y < 6) (hp : post (some (.int (nI (bN (rst t x y))))) mi ml mr dom) : CT G 3 0 0 yX13_isRest cX13_isRest 4 (some .boolean) [.ref 1000, .int (nI x), .int (nI y)] mi ml mr dom post := by
  have w := hW.1
  have hge := hM.ge
  refine enter 1 (by decide) rfl rfl (fun X => ?_)
  refine j_iconst (v := nI 0) dX13_isRest_0 (by decide) ?_
  refine j_istore_n (lv2 := [_, _, _, _]) dX13_isRest_1 rfl (by decide) rfl rfl ?_
  skip
  refine lp (n := 6) (Q := fun i => ∀ j, j < i → gain t j y ≤ gain t x y ∧ gain t j x ≤ gain t y x) (H := fun i => J cX13_isRest 4 yX13_isRest.cls yX13_isRest.name (some .boolean) 3 G X post 0 0 mi ml mr dom 2 [some (.ref 1000), some (.int (nI x)), some (.int (nI y)), some (.int (nI i))] []) (fun hq => ?_) (fun i hi hq ih => ?_) (fun j hj => absurd hj (by omega))
  · skip
    refine j_iload_n dX13_isRest_2 rfl rfl ?_
    refine j_bipush (v := nI 6) dX13_isRest_3 (by decide) ?_
    refine j_icmp_ge (tgt := 46) dX13_isRest_5 (by decide) (fun h5 => ?_) (fun h5 => by exfalso; rw [nI_leI (by omega) (by omega)] at h5; omega)
    refine j_iconst (v := nI 1) dX13_isRest_46 (by decide) ?_
    refine j_zret rfl (by decide) dX13_isRest_47 ?_
    rw [rst_t hx hy hq] at hp; exact hp
  · skip
    refine j_iload_n dX13_isRest_2 rfl rfl ?_
    refine j_bipush (v := nI 6) dX13_isRest_3 (by decide) ?_
    refine j_icmp_ge (tgt := 46) dX13_isRest_5 (by decide) (fun h5 => by exfalso; rw [nI_leI (by omega) (by omega)] at h5; omega) (fun h5 => ?_)
    refine j_aload_n dX13_isRest_8 rfl rfl ?_
    refine j_iload_n dX13_isRest_9 rfl rfl ?_
    refine j_iload_n dX13_isRest_10 rfl rfl ?_
    refine cV13_473 (d1 := 2) rfl dX13_isRest_11 (by decide) (Nat.le_of_ble_eq_true rfl) ?_
    refine m_has hX hM hY hTn hg hW hR (by omega) (by omega) ?_
    refine j_aload_n dX13_isRest_14 rfl rfl ?_
    refine j_iload_n dX13_isRest_15 rfl rfl ?_
    refine j_iload_n dX13_isRest_16 rfl rfl ?_
    refine cV13_473 (d1 := 2) rfl dX13_isRest_17 (by decide) (Nat.le_of_ble_eq_true rfl) ?_
    refine m_has hX hM hY hTn hg hW hR (by omega) (by omega) ?_
    refine j_icmp_gt (tgt := 38) dX13_isRest_20 (by decide) (fun h20 => ?_) (fun h20 => ?_)
    all_goals rw [nI_ltI (by have := gain_l2 (y := y) hW (show x < 6 by omega); omega) (by have := gain_l2 (y := y) hW (show i < 6 by omega); omega)] at h20
    · refine j_iconst (v := nI 0) dX13_isRest_38 (by decide) ?_
      refine j_zret rfl (by decide) dX13_isRest_39 ?_
      rw [rst_f hi (fun z => by omega)] at hp; exact hp
    · refine j_aload_n dX13_isRest_23 rfl rfl ?_
      refine j_iload_n dX13_isRest_24 rfl rfl ?_
      refine j_iload_n dX13_isRest_25 rfl rfl ?_
      refine cV13_473 (d1 := 2) rfl dX13_isRest_26 (by decide) (Nat.le_of_ble_eq_true rfl) ?_
      refine m_has hX hM hY hTn hg hW hR (by omega) (by omega) ?_
      refine j_aload_n dX13_isRest_29 rfl rfl ?_
      refine j_iload_n dX13_isRest_30 rfl rfl ?_
      refine j_iload_n dX13_isRest_31 rfl rfl ?_
      refine cV13_473 (d1 := 2) rfl dX13_isRest_32 (by decide) (Nat.le_of_ble_eq_true rfl) ?_
      refine m_has hX hM hY hTn hg hW hR (by omega) (by omega) ?_
      refine j_icmp_le (tgt := 40) dX13_isRest_35 (by decide) (fun h35 => ?_) (fun h35 => ?_)
      all_goals rw [nI_leI (by have := gain_l2 (y := x) hW (show i < 6 by omega); omega) (by have := gain_l2 (y := x) hW (show y < 6 by omega); omega)] at h35
      · refine j_iinc1 (lv2 := [_, _, _, _]) dX13_isRest_40 rfl (by decide) rfl rfl ?_
        rw [nI_1]
        refine j_goto (tgt := 2) dX13_isRest_43 (by decide) ?_
        refine ih (fun j hj => ?_)
        by_cases q : j = i
        · subst q; omega
        · exact hq j (by omega)
      · refine j_iconst (v := nI 0) dX13_isRest_38 (by decide) ?_
        refine j_zret rfl (by decide) dX13_isRest_39 ?_
        rw [rst_f hi (fun z => by omega)] at hp; exact hp
theorem cnt36 (P : Nat → Bool) (R : Nat → Nat → Bool) (h : ∀ x y, y < 6 → P (6 * x + y) = R x y) : ∀ n, fu (fun x c => fu (fun y c => if R x y then c + 1 else c) 6 c) n 0 = cnt P (6 * n) := by
  intro n
  induction n with
  | zero => rfl
  | succ n ih =>
    rw [fu, ih]
    have e : ∀ y, y < 6 → P (6 * n + y) = R n y := fun y hy => h n y hy
    show fu (fun y c => if R n y then c + 1 else c) 6 (cnt P (6 * n)) = cnt P (6 * n + 1 + 1 + 1 + 1 + 1 + 1)
    simp only [cnt, fu]
    rw [show P (6 * n + 1 + 1 + 1 + 1 + 1) = R n 5 from e 5 (by decide), show P (6 * n + 1 + 1 + 1 + 1) = R n 4 from e 4 (by decide), show P (6 * n + 1 + 1 + 1) = R n 3 from e 3 (by decide), show P (6 * n + 1 + 1) = R n 2 from e 2 (by decide), show P (6 * n + 1) = R n 1 from e 1 (by decide), show P (6 * n) = R n 0 from e 0 (by decide)]
theorem rsN_c (t : TW) : rsN t = cnt (fun k => rst t (k / 6) (k % 6)) 36 := cnt36 (fun k => rst t (k / 6) (k % 6)) (rst t) (fun x y hy => by show rst t ((6 * x + y) / 6) ((6 * x + y) % 6) = _; rw [show (6 * x + y) / 6 = x by omega, show (6 * x + y) % 6 = y by omega]) 6
theorem mx_rests  (hX : XM mr) (hM : MM M) (hY : XT mr M) (hTn : mr 1000 3 = some M) (hg : GB t) (hW : WT t) (hR : RM mi M t)  (hp : post (some (.int (nI (rsN t)))) (fa mi) ml mr dom) : CT G 4 0 0 yX13_rests cX13_rests 3 (some .int) [.ref 1000] mi ml mr dom post := by
  have w := hW.1
  have hge := hM.ge
  rw [rsN_c] at hp
  refine enter 2 (by decide) rfl rfl (fun X => ?_)
  refine j_aload_n dX13_rests_0 rfl rfl ?_
  refine j_iconst (v := nI 0) dX13_rests_1 (by decide) ?_
  refine pI13_51 rfl dX13_rests_2 ?_
  obtain ⟨m1, e1⟩ : ∃ m, m = up mi 1000 0 (nI 0) := ⟨_, rfl⟩
  rw [← e1]
  have hR1 : RM m1 M t := RM_lo hM (fun n hn => by rw [e1, up_off _ _ (by omega)]) hR
  refine j_aload_n dX13_rests_5 rfl rfl ?_
  refine gR13_335 rfl dX13_rests_6 hTn ?_
  refine j_ifnonnull (tgt := 18) dX13_rests_9 (by decide) ?_
  refine j_iconst (v := nI 0) dX13_rests_18 (by decide) ?_
  refine j_istore_n (lv2 := [_, _, _]) dX13_rests_19 rfl (by decide) rfl rfl ?_
  refine j_iconst (v := nI 0) dX13_rests_20 (by decide) ?_
  refine j_istore_n (lv2 := [_, _, _]) dX13_rests_21 rfl (by decide) rfl rfl ?_
  refine lq (n := 36) (H := fun i => J cX13_rests 3 yX13_rests.cls yX13_rests.name (some .int) 4 G X post 0 0 m1 ml mr dom 22 [some (.ref 1000), some (.int (nI (cnt (fun k => rst t (k / 6) (k % 6)) i))), some (.int (nI i))] []) ?_ (fun i hi ih => ?_)
  · skip
    refine j_iload_n dX13_rests_22 rfl rfl ?_
    refine j_bipush (v := nI 36) dX13_rests_23 (by decide) ?_
    refine j_icmp_ge (tgt := 57) dX13_rests_25 (by decide) (fun h25 => ?_) (fun h25 => by exfalso; rw [nI_leI (by omega) (by omega)] at h25; omega)
    refine j_aload_n dX13_rests_57 rfl rfl ?_
    refine j_iload_n dX13_rests_58 rfl rfl ?_
    refine cV13_61 (d1 := 1) rfl dX13_rests_59 (by decide) (Nat.le_of_ble_eq_true rfl) ?_
    refine m_fair ?_
    refine j_iret rfl dX13_rests_62 ?_
    rw [e1]; exact hp
  · skip
    refine j_iload_n dX13_rests_22 rfl rfl ?_
    refine j_bipush (v := nI 36) dX13_rests_23 (by decide) ?_
    refine j_icmp_ge (tgt := 57) dX13_rests_25 (by decide) (fun h25 => by exfalso; rw [nI_leI (by omega) (by omega)] at h25; omega) (fun h25 => ?_)
    refine j_iload_n dX13_rests_28 rfl rfl ?_
    refine j_aload_n dX13_rests_29 rfl rfl ?_
    refine j_iload_n dX13_rests_30 rfl rfl ?_
    refine j_bipush (v := nI 6) dX13_rests_31 (by decide) ?_
    refine j_idiv dX13_rests_33 (by decide) ?_
    rw [pk_div (by omega) (by show 0 < 6; omega) (by omega)]
    refine j_iload_n dX13_rests_34 rfl rfl ?_
    refine j_bipush (v := nI 6) dX13_rests_35 (by decide) ?_
    refine j_irem dX13_rests_37 (by decide) ?_
    rw [pk_rem (by omega) (by show 0 < 6; omega) (by omega)]
    refine cV13_476 (d1 := 3) rfl dX13_rests_38 (by decide) (Nat.le_of_ble_eq_true rfl) ?_
    refine m_isRest hX hM hY hTn hg hW hR1 (by omega) (by omega) ?_
    refine j_if_eq (tgt := 48) dX13_rests_41 (by decide) (fun h41 => ?_) (fun h41 => ?_)
    all_goals rw [bN_eq0] at h41
    · refine j_iconst (v := nI 0) dX13_rests_48 (by decide) ?_
      refine j_iadd dX13_rests_49 ?_
      rw [nI_add]
      refine j_istore_n (lv2 := [_, _, _]) dX13_rests_50 rfl (by decide) rfl rfl ?_
      refine j_iinc1 (lv2 := [_, _, _]) dX13_rests_51 rfl (by decide) rfl rfl ?_
      rw [nI_1]
      refine j_goto (tgt := 22) dX13_rests_54 (by decide) ?_
      have c1 : cnt (fun k => rst t (k / 6) (k % 6)) (i + 1) = cnt (fun k => rst t (k / 6) (k % 6)) i := if_neg (by show ¬ rst t (i / 6) (i % 6) = true; rw [h41]; decide)
      rw [c1] at ih
      exact ih
    · refine j_iconst (v := nI 1) dX13_rests_44 (by decide) ?_
      refine j_goto (tgt := 49) dX13_rests_45 (by decide) ?_
      refine j_iadd dX13_rests_49 ?_
      rw [nI_add]
      refine j_istore_n (lv2 := [_, _, _]) dX13_rests_50 rfl (by decide) rfl rfl ?_
      refine j_iinc1 (lv2 := [_, _, _]) dX13_rests_51 rfl (by decide) rfl rfl ?_
      rw [nI_1]
      refine j_goto (tgt := 22) dX13_rests_54 (by decide) ?_
      have c1 : cnt (fun k => rst t (k / 6) (k % 6)) (i + 1) = cnt (fun k => rst t (k / 6) (k % 6)) i + 1 := if_pos (by rw [Bool.not_eq_false] at h41; exact h41)
      rw [c1] at ih
      exact ih
theorem mx_rest  (hX : XM mr) (hM : MM M) (hY : XT mr M) (hTn : mr 1000 3 = some M) (hg : GB t) (hW : WT t) (hR : RM mi M t)  (hp : (∀ x y, x < 6 → y < 6 → rst t x y = true → (∀ a b, b < 6 → (a < x ∨ a = x ∧ b < y) → rst t a b = false) → post (some (.int (nI (10 * x + y)))) (fa mi) ml mr dom) ∧ ((∀ a b, a < 6 → b < 6 → rst t a b = false) → post (some (.int (-2))) (fa mi) ml mr dom)) : CT G 4 0 0 yX13_rest cX13_rest 2 (some .int) [.ref 1000] mi ml mr dom post := by
  have w := hW.1
  have hge := hM.ge
  refine enter 1 (by decide) rfl rfl (fun X => ?_)
  refine j_aload_n dX13_rest_0 rfl rfl ?_
  refine j_iconst (v := nI 0) dX13_rest_1 (by decide) ?_
  refine pI13_51 rfl dX13_rest_2 ?_
  obtain ⟨m1, e1⟩ : ∃ m, m = up mi 1000 0 (nI 0) := ⟨_, rfl⟩
  rw [← e1]
  have hR1 : RM m1 M t := RM_lo hM (fun n hn => by rw [e1, up_off _ _ (by omega)]) hR
  refine j_aload_n dX13_rest_5 rfl rfl ?_
  refine gR13_335 rfl dX13_rest_6 hTn ?_
  refine j_ifnonnull (tgt := 18) dX13_rest_9 (by decide) ?_
  refine j_iconst (v := nI 0) dX13_rest_18 (by decide) ?_
  refine j_istore_n (lv2 := [_, _]) dX13_rest_19 rfl (by decide) rfl rfl ?_
  refine lp (n := 36) (Q := fun i => ∀ j, j < i → rst t (j / 6) (j % 6) = false) (H := fun i => J cX13_rest 2 yX13_rest.cls yX13_rest.name (some .int) 4 G X post 0 0 m1 ml mr dom 20 [some (.ref 1000), some (.int (nI i))] []) (fun hq => ?_) (fun i hi hq ih => ?_) (fun j hj => absurd hj (by omega))
  · skip
    refine j_iload_n dX13_rest_20 rfl rfl ?_
    refine j_bipush (v := nI 36) dX13_rest_21 (by decide) ?_
    refine j_icmp_ge (tgt := 64) dX13_rest_23 (by decide) (fun h23 => ?_) (fun h23 => by exfalso; rw [nI_leI (by omega) (by omega)] at h23; omega)
    refine j_aload_n dX13_rest_64 rfl rfl ?_
    refine j_bipush (v := -2) dX13_rest_65 (by decide) ?_
    refine cV13_61 (d1 := 1) rfl dX13_rest_67 (by decide) (Nat.le_of_ble_eq_true rfl) ?_
    refine m_fair ?_
    refine j_iret rfl dX13_rest_70 ?_
    rw [e1]
    refine hp.2 (fun a b ha hb => ?_)
    have := hq (6 * a + b) (by omega)
    rw [show (6 * a + b) / 6 = a by omega, show (6 * a + b) % 6 = b by omega] at this
    exact this
  · skip
    refine j_iload_n dX13_rest_20 rfl rfl ?_
    refine j_bipush (v := nI 36) dX13_rest_21 (by decide) ?_
    refine j_icmp_ge (tgt := 64) dX13_rest_23 (by decide) (fun h23 => by exfalso; rw [nI_leI (by omega) (by omega)] at h23; omega) (fun h23 => ?_)
    refine j_aload_n dX13_rest_26 rfl rfl ?_
    refine j_iload_n dX13_rest_27 rfl rfl ?_
    refine j_bipush (v := nI 6) dX13_rest_28 (by decide) ?_
    refine j_idiv dX13_rest_30 (by decide) ?_
    rw [pk_div (by omega) (by show 0 < 6; omega) (by omega)]
    refine j_iload_n dX13_rest_31 rfl rfl ?_
    refine j_bipush (v := nI 6) dX13_rest_32 (by decide) ?_
    refine j_irem dX13_rest_34 (by decide) ?_
    rw [pk_rem (by omega) (by show 0 < 6; omega) (by omega)]
    refine cV13_476 (d1 := 3) rfl dX13_rest_35 (by decide) (Nat.le_of_ble_eq_true rfl) ?_
    refine m_isRest hX hM hY hTn hg hW hR1 (by omega) (by omega) ?_
    refine j_if_eq (tgt := 58) dX13_rest_38 (by decide) (fun h38 => ?_) (fun h38 => ?_)
    all_goals rw [bN_eq0] at h38
    · refine j_iinc1 (lv2 := [_, _]) dX13_rest_58 rfl (by decide) rfl rfl ?_
      rw [nI_1]
      refine j_goto (tgt := 20) dX13_rest_61 (by decide) ?_
      refine ih (fun j hj => ?_)
      by_cases q : j = i
      · subst q; exact h38
      · exact hq j (by omega)
    · refine j_aload_n dX13_rest_41 rfl rfl ?_
      refine j_bipush (v := nI 10) dX13_rest_42 (by decide) ?_
      refine j_iload_n dX13_rest_44 rfl rfl ?_
      refine j_bipush (v := nI 6) dX13_rest_45 (by decide) ?_
      refine j_idiv dX13_rest_47 (by decide) ?_
      rw [pk_div (by omega) (by show 0 < 6; omega) (by omega)]
      refine j_imul dX13_rest_48 ?_
      rw [pk_mul]
      refine j_iload_n dX13_rest_49 rfl rfl ?_
      refine j_bipush (v := nI 6) dX13_rest_50 (by decide) ?_
      refine j_irem dX13_rest_52 (by decide) ?_
      rw [pk_rem (by omega) (by show 0 < 6; omega) (by omega)]
      refine j_iadd dX13_rest_53 ?_
      rw [nI_add]
      refine cV13_61 (d1 := 1) rfl dX13_rest_54 (by decide) (Nat.le_of_ble_eq_true rfl) ?_
      refine m_fair ?_
      refine j_iret rfl dX13_rest_57 ?_
      rw [e1]
      rw [Bool.not_eq_false] at h38
      refine hp.1 (i / 6) (i % 6) (by omega) (by omega) h38 (fun a b hb hab => ?_)
      have := hq (6 * a + b) (by omega)
      rw [show (6 * a + b) / 6 = a by omega, show (6 * a + b) % 6 = b by omega] at this
      exact this
end M13c
