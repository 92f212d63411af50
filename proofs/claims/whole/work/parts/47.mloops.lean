/-! the reference: questions with loops -/
section M13b
variable {G : GG} {post : PT} {mi : MI} {ml : ML} {mr : MR} {dom : List Nat} {M : Nat} {t : TW} {v : Nat → Nat}
theorem mx_pairsB {x y : Int32} (hX : XM mr) (hM : MM M) (hY : XT mr M) (hTn : mr 1000 3 = some M) (hg : GB t) (hW : WT t) (hR : RM mi M t) (hb : bad x (t 0 3)) (hp : post (some (.int (-1))) (rf mi (nI 1)) ml mr dom) : CT G 6 0 0 yX13_pairs cX13_pairs 6 (some .int) [.ref 1000, .int x, .int y] mi ml mr dom post := by
  have w := hW.1
  have hge := hM.ge
  refine enter 3 (by decide) rfl rfl (fun X => ?_)
  refine j_aload_n dX13_pairs_0 rfl rfl ?_
  refine j_iconst (v := nI 0) dX13_pairs_1 (by decide) ?_
  refine pI13_51 rfl dX13_pairs_2 ?_
  obtain ⟨m1, e1⟩ : ∃ m, m = up mi 1000 0 (nI 0) := ⟨_, rfl⟩
  rw [← e1]
  have hR1 : RM m1 M t := RM_lo hM (fun n hn => by rw [e1, up_off _ _ (by omega)]) hR
  refine j_aload_n dX13_pairs_5 rfl rfl ?_
  refine j_aload_n dX13_pairs_6 rfl rfl ?_
  refine j_iload_n dX13_pairs_7 rfl rfl ?_
  refine cV13_352 (d1 := 1) rfl dX13_pairs_8 (by decide) (Nat.le_of_ble_eq_true rfl) ?_
  refine m_isHouseB hX hM hY hTn hg hW hR1 hb ?_
  refine j_iload_n dX13_pairs_11 rfl rfl ?_
  refine cV13_370 (d1 := 2) rfl dX13_pairs_12 (by decide) (Nat.le_of_ble_eq_true rfl) ?_
  refine m_rhN ?_
  refine j_istore_n (lv2 := [_, _, _, _, _, _]) dX13_pairs_15 rfl (by decide) rfl rfl ?_
  refine j_iload_n dX13_pairs_16 rfl rfl ?_
  refine j_if_le (tgt := 26) dX13_pairs_17 (by decide) (fun h17 => absurd h17 (by decide)) (fun h17 => ?_)
  refine j_aload_n dX13_pairs_20 rfl rfl ?_
  refine j_iload_n dX13_pairs_21 rfl rfl ?_
  refine cV13_57 (d1 := 1) rfl dX13_pairs_22 (by decide) (Nat.le_of_ble_eq_true rfl) ?_
  refine m_refused ?_
  refine j_iret rfl dX13_pairs_25 ?_
  rw [e1]; exact hp
theorem mx_pairsB2 {h : Nat} {y : Int32} (hX : XM mr) (hM : MM M) (hY : XT mr M) (hTn : mr 1000 3 = some M) (hg : GB t) (hW : WT t) (hR : RM mi M t) (h1 : h < t 0 3) (hb : bad y 24) (hp : post (some (.int (-1))) (rf mi (nI 2)) ml mr dom) : CT G 6 0 0 yX13_pairs cX13_pairs 6 (some .int) [.ref 1000, .int (nI h), .int y] mi ml mr dom post := by
  have w := hW.1
  have hge := hM.ge
  refine enter 3 (by decide) rfl rfl (fun X => ?_)
  refine j_aload_n dX13_pairs_0 rfl rfl ?_
  refine j_iconst (v := nI 0) dX13_pairs_1 (by decide) ?_
  refine pI13_51 rfl dX13_pairs_2 ?_
  obtain ⟨m1, e1⟩ : ∃ m, m = up mi 1000 0 (nI 0) := ⟨_, rfl⟩
  rw [← e1]
  have hR1 : RM m1 M t := RM_lo hM (fun n hn => by rw [e1, up_off _ _ (by omega)]) hR
  refine j_aload_n dX13_pairs_5 rfl rfl ?_
  refine j_aload_n dX13_pairs_6 rfl rfl ?_
  refine j_iload_n dX13_pairs_7 rfl rfl ?_
  refine cV13_352 (d1 := 1) rfl dX13_pairs_8 (by decide) (Nat.le_of_ble_eq_true rfl) ?_
  refine m_isHouseG hX hM hY hTn hg hW hR1 (by omega) ?_
  refine j_iload_n dX13_pairs_11 rfl rfl ?_
  refine cV13_370 (d1 := 2) rfl dX13_pairs_12 (by decide) (Nat.le_of_ble_eq_true rfl) ?_
  refine m_rhB hb ?_
  refine j_istore_n (lv2 := [_, _, _, _, _, _]) dX13_pairs_15 rfl (by decide) rfl rfl ?_
  refine j_iload_n dX13_pairs_16 rfl rfl ?_
  refine j_if_le (tgt := 26) dX13_pairs_17 (by decide) (fun h17 => absurd h17 (by decide)) (fun h17 => ?_)
  refine j_aload_n dX13_pairs_20 rfl rfl ?_
  refine j_iload_n dX13_pairs_21 rfl rfl ?_
  refine cV13_57 (d1 := 1) rfl dX13_pairs_22 (by decide) (Nat.le_of_ble_eq_true rfl) ?_
  refine m_refused ?_
  refine j_iret rfl dX13_pairs_25 ?_
  rw [e1]; exact hp
theorem mx_pairs {h x : Nat} (hX : XM mr) (hM : MM M) (hY : XT mr M) (hTn : mr 1000 3 = some M) (hg : GB t) (hW : WT t) (hR : RM mi M t) (h1 : h < t 0 3) (h2 : x < 24) (hp : post (some (.int (nI (sm (fun p => popc (dbl t p (t 1 h) (isD t x))) (t 0 5) / 2)))) (fa mi) ml mr dom) : CT G 6 0 0 yX13_pairs cX13_pairs 6 (some .int) [.ref 1000, .int (nI h), .int (nI x)] mi ml mr dom post := by
  have w := hW.1
  have hge := hM.ge
  refine enter 3 (by decide) rfl rfl (fun X => ?_)
  refine j_aload_n dX13_pairs_0 rfl rfl ?_
  refine j_iconst (v := nI 0) dX13_pairs_1 (by decide) ?_
  refine pI13_51 rfl dX13_pairs_2 ?_
  obtain ⟨m1, e1⟩ : ∃ m, m = up mi 1000 0 (nI 0) := ⟨_, rfl⟩
  rw [← e1]
  have hR1 : RM m1 M t := RM_lo hM (fun n hn => by rw [e1, up_off _ _ (by omega)]) hR
  refine j_aload_n dX13_pairs_5 rfl rfl ?_
  refine j_aload_n dX13_pairs_6 rfl rfl ?_
  refine j_iload_n dX13_pairs_7 rfl rfl ?_
  refine cV13_352 (d1 := 1) rfl dX13_pairs_8 (by decide) (Nat.le_of_ble_eq_true rfl) ?_
  refine m_isHouseG hX hM hY hTn hg hW hR1 (by omega) ?_
  refine j_iload_n dX13_pairs_11 rfl rfl ?_
  refine cV13_370 (d1 := 2) rfl dX13_pairs_12 (by decide) (Nat.le_of_ble_eq_true rfl) ?_
  refine m_rhG (by omega) ?_
  refine j_istore_n (lv2 := [_, _, _, _, _, _]) dX13_pairs_15 rfl (by decide) rfl rfl ?_
  refine j_iload_n dX13_pairs_16 rfl rfl ?_
  refine j_if_le (tgt := 26) dX13_pairs_17 (by decide) (fun h17 => ?_) (fun h17 => absurd (by decide) h17)
  refine j_iconst (v := nI 0) dX13_pairs_26 (by decide) ?_
  refine j_istore (lv2 := [_, _, _, _, _, _]) dX13_pairs_27 (by decide) rfl rfl ?_
  refine j_iconst (v := nI 0) dX13_pairs_29 (by decide) ?_
  refine j_istore (lv2 := [_, _, _, _, _, _]) dX13_pairs_30 (by decide) rfl rfl ?_
  refine lq (n := t 0 5) (H := fun i => J cX13_pairs 6 yX13_pairs.cls yX13_pairs.name (some .int) 6 G X post 0 0 m1 ml mr dom 32 [some (.ref 1000), some (.int (nI h)), some (.int (nI x)), some (.int (nI 0)), some (.int (nI (sm (fun p => popc (dbl t p (t 1 h) (isD t x))) i))), some (.int (nI i))] []) ?_ (fun i hi ih => ?_)
  · skip
    refine j_iload dX13_pairs_32 rfl ?_
    refine j_aload_n dX13_pairs_34 rfl rfl ?_
    refine gR13_335 rfl dX13_pairs_35 hTn ?_
    refine gI13_199 (kM0 hM) dX13_pairs_38 ?_
    rw [hR1.1 5 (by decide)]
    refine j_icmp_ge (tgt := 66) dX13_pairs_41 (by decide) (fun h41 => ?_) (fun h41 => by exfalso; rw [nI_leI (by have := hg 0 5; omega) (by have := hg 0 5; omega)] at h41; have := hg 0 5; omega)
    refine j_aload_n dX13_pairs_66 rfl rfl ?_
    refine j_iload dX13_pairs_67 rfl ?_
    refine j_iconst (v := nI 2) dX13_pairs_69 (by decide) ?_
    refine j_idiv dX13_pairs_70 (by decide) ?_
    rw [pk_div (by have := sm_le (f := (fun p => popc (dbl t p (t 1 h) (isD t x)))) (b := 6) (t 0 5) (fun j _ => popc_6 _ (dbl_64 t j (t 1 h) (isD t x) w.2.2.2.2.2.1)); omega) (by show 0 < 2; omega) (by omega)]
    refine cV13_61 (d1 := 1) rfl dX13_pairs_71 (by decide) (Nat.le_of_ble_eq_true rfl) ?_
    refine m_fair ?_
    refine j_iret rfl dX13_pairs_74 ?_
    rw [e1]; exact hp
  · skip
    refine j_iload dX13_pairs_32 rfl ?_
    refine j_aload_n dX13_pairs_34 rfl rfl ?_
    refine gR13_335 rfl dX13_pairs_35 hTn ?_
    refine gI13_199 (kM0 hM) dX13_pairs_38 ?_
    rw [hR1.1 5 (by decide)]
    refine j_icmp_ge (tgt := 66) dX13_pairs_41 (by decide) (fun h41 => by exfalso; rw [nI_leI (by have := hg 0 5; omega) (by omega)] at h41; have := hg 0 5; omega) (fun h41 => ?_)
    refine j_iload dX13_pairs_44 rfl ?_
    refine j_aload_n dX13_pairs_46 rfl rfl ?_
    refine j_iload dX13_pairs_47 rfl ?_
    refine j_iload_n dX13_pairs_49 rfl rfl ?_
    refine j_iload_n dX13_pairs_50 rfl rfl ?_
    refine cV13_382 (d1 := 4) rfl dX13_pairs_51 (by decide) (Nat.le_of_ble_eq_true rfl) ?_
    refine m_takenFor hX hM hY hTn hg hW hR1 (by omega) (by omega) (by omega) ?_
    refine cS13_385 (d1 := 1) dX13_pairs_54 (by decide) (Nat.le_of_ble_eq_true rfl) ?_
    refine m_bits (by have := dbl_64 t i (t 1 h) (isD t x) w.2.2.2.2.2.1; show dbl t i (t 1 h) (isD t x) < 64; omega) ?_
    refine j_iadd dX13_pairs_57 ?_
    rw [nI_add]
    refine j_istore (lv2 := [_, _, _, _, _, _]) dX13_pairs_58 (by decide) rfl rfl ?_
    refine j_iinc1 (lv2 := [_, _, _, _, _, _]) dX13_pairs_60 rfl (by decide) rfl rfl ?_
    rw [nI_1]
    refine j_goto (tgt := 32) dX13_pairs_63 (by decide) ?_
    rw [sm] at ih
    exact ih
theorem mx_knownAtB {x : Int32} (hX : XM mr) (hM : MM M) (hY : XT mr M) (hTn : mr 1000 3 = some M) (hg : GB t) (hW : WT t) (hR : RM mi M t) (hb : bad x (t 0 5)) (hp : post (some (.int (-1))) (rf mi (nI 1)) ml mr dom) : CT G 5 0 0 yX13_knownAt cX13_knownAt 4 (some .int) [.ref 1000, .int x] mi ml mr dom post := by
  have w := hW.1
  have hge := hM.ge
  refine enter 2 (by decide) rfl rfl (fun X => ?_)
  refine j_aload_n dX13_knownAt_0 rfl rfl ?_
  refine j_iconst (v := nI 0) dX13_knownAt_1 (by decide) ?_
  refine pI13_51 rfl dX13_knownAt_2 ?_
  obtain ⟨m1, e1⟩ : ∃ m, m = up mi 1000 0 (nI 0) := ⟨_, rfl⟩
  rw [← e1]
  have hR1 : RM m1 M t := RM_lo hM (fun n hn => by rw [e1, up_off _ _ (by omega)]) hR
  refine j_aload_n dX13_knownAt_5 rfl rfl ?_
  refine j_iload_n dX13_knownAt_6 rfl rfl ?_
  refine cV13_355 (d1 := 1) rfl dX13_knownAt_7 (by decide) (Nat.le_of_ble_eq_true rfl) ?_
  refine m_isPersonB hX hM hY hTn hg hW hR1 hb ?_
  refine j_if_ne (tgt := 19) dX13_knownAt_10 (by decide) (fun h10 => absurd (by decide) h10) (fun h10 => ?_)
  refine j_aload_n dX13_knownAt_13 rfl rfl ?_
  refine j_iconst (v := nI 1) dX13_knownAt_14 (by decide) ?_
  refine cV13_57 (d1 := 1) rfl dX13_knownAt_15 (by decide) (Nat.le_of_ble_eq_true rfl) ?_
  refine m_refused ?_
  refine j_iret rfl dX13_knownAt_18 ?_
  rw [e1]; exact hp
theorem mx_knownAt {p : Nat} (hX : XM mr) (hM : MM M) (hY : XT mr M) (hTn : mr 1000 3 = some M) (hg : GB t) (hW : WT t) (hR : RM mi M t) (hLT : LT t) (h1 : p < t 0 5) (hp : post (some (.int (nI (bst (fun h => decide (dbl t p (t 1 h) true = 0)) (t 0 3))))) (fa mi) ml mr dom) : CT G 5 0 0 yX13_knownAt cX13_knownAt 4 (some .int) [.ref 1000, .int (nI p)] mi ml mr dom post := by
  have w := hW.1
  have hge := hM.ge
  have hl1 := hLT.1
  have hl2 := hLT.2.1
  have hdd : isD t (t 0 0) = true := by unfold isD; rw [decide_eq_true (Nat.le_refl _), decide_eq_true (by omega)]; rfl
  refine enter 2 (by decide) rfl rfl (fun X => ?_)
  refine j_aload_n dX13_knownAt_0 rfl rfl ?_
  refine j_iconst (v := nI 0) dX13_knownAt_1 (by decide) ?_
  refine pI13_51 rfl dX13_knownAt_2 ?_
  obtain ⟨m1, e1⟩ : ∃ m, m = up mi 1000 0 (nI 0) := ⟨_, rfl⟩
  rw [← e1]
  have hR1 : RM m1 M t := RM_lo hM (fun n hn => by rw [e1, up_off _ _ (by omega)]) hR
  refine j_aload_n dX13_knownAt_5 rfl rfl ?_
  refine j_iload_n dX13_knownAt_6 rfl rfl ?_
  refine cV13_355 (d1 := 1) rfl dX13_knownAt_7 (by decide) (Nat.le_of_ble_eq_true rfl) ?_
  refine m_isPersonG hX hM hY hTn hg hW hR1 (by omega) ?_
  refine j_if_ne (tgt := 19) dX13_knownAt_10 (by decide) (fun h10 => ?_) (fun h10 => absurd h10 (by decide))
  refine j_iconst (v := nI 0) dX13_knownAt_19 (by decide) ?_
  refine j_istore_n (lv2 := [_, _, _, _]) dX13_knownAt_20 rfl (by decide) rfl rfl ?_
  refine j_iconst (v := nI 0) dX13_knownAt_21 (by decide) ?_
  refine j_istore_n (lv2 := [_, _, _, _]) dX13_knownAt_22 rfl (by decide) rfl rfl ?_
  refine lq (n := t 0 3) (H := fun i => J cX13_knownAt 4 yX13_knownAt.cls yX13_knownAt.name (some .int) 5 G X post 0 0 m1 ml mr dom 23 [some (.ref 1000), some (.int (nI p)), some (.int (nI (bst (fun h => decide (dbl t p (t 1 h) true = 0)) i))), some (.int (nI i))] []) ?_ (fun i hi ih => ?_)
  · skip
    refine j_iload_n dX13_knownAt_23 rfl rfl ?_
    refine j_aload_n dX13_knownAt_24 rfl rfl ?_
    refine gR13_335 rfl dX13_knownAt_25 hTn ?_
    refine gI13_196 (kM0 hM) dX13_knownAt_28 ?_
    rw [hR1.1 3 (by decide)]
    refine j_icmp_ge (tgt := 66) dX13_knownAt_31 (by decide) (fun h31 => ?_) (fun h31 => by exfalso; rw [nI_leI (by have := hg 0 3; omega) (by have := hg 0 3; omega)] at h31; have := hg 0 3; omega)
    refine j_aload_n dX13_knownAt_66 rfl rfl ?_
    refine j_iload_n dX13_knownAt_67 rfl rfl ?_
    refine cV13_61 (d1 := 1) rfl dX13_knownAt_68 (by decide) (Nat.le_of_ble_eq_true rfl) ?_
    refine m_fair ?_
    refine j_iret rfl dX13_knownAt_71 ?_
    rw [e1]; exact hp
  · skip
    refine j_iload_n dX13_knownAt_23 rfl rfl ?_
    refine j_aload_n dX13_knownAt_24 rfl rfl ?_
    refine gR13_335 rfl dX13_knownAt_25 hTn ?_
    refine gI13_196 (kM0 hM) dX13_knownAt_28 ?_
    rw [hR1.1 3 (by decide)]
    refine j_icmp_ge (tgt := 66) dX13_knownAt_31 (by decide) (fun h31 => by exfalso; rw [nI_leI (by have := hg 0 3; omega) (by omega)] at h31; have := hg 0 3; omega) (fun h31 => ?_)
    refine j_iload_n dX13_knownAt_34 rfl rfl ?_
    refine j_aload_n dX13_knownAt_35 rfl rfl ?_
    refine j_iload_n dX13_knownAt_36 rfl rfl ?_
    refine j_iload_n dX13_knownAt_37 rfl rfl ?_
    refine j_aload_n dX13_knownAt_38 rfl rfl ?_
    refine gR13_335 rfl dX13_knownAt_39 hTn ?_
    refine gI13_232 (kM0 hM) dX13_knownAt_42 ?_
    rw [hR1.1 0 (by decide)]
    refine cV13_382 (d1 := 4) rfl dX13_knownAt_45 (by decide) (Nat.le_of_ble_eq_true rfl) ?_
    refine m_takenFor hX hM hY hTn hg hW hR1 (by omega) (by omega) (by have := hg 0 0; omega) ?_
    rw [hdd]
    refine j_if_ne (tgt := 57) dX13_knownAt_48 (by decide) (fun h48 => ?_) (fun h48 => ?_)
    all_goals rw [show (0 : Int32) = nI 0 from rfl, nI_eq (by have := dbl_64 t p (t 1 i) true w.2.2.2.2.2.1; omega) (by decide)] at h48
    · refine j_iconst (v := nI 0) dX13_knownAt_57 (by decide) ?_
      refine j_ior dX13_knownAt_58 ?_
      rw [or_0]
      refine j_istore_n (lv2 := [_, _, _, _]) dX13_knownAt_59 rfl (by decide) rfl rfl ?_
      refine j_iinc1 (lv2 := [_, _, _, _]) dX13_knownAt_60 rfl (by decide) rfl rfl ?_
      rw [nI_1]
      refine j_goto (tgt := 23) dX13_knownAt_63 (by decide) ?_
      rw [bst, if_neg (show ¬ (fun h => decide (dbl t p (t 1 h) true = 0)) i = true by first | assumption | simp_all | (simp only [decide_eq_true_eq, Bool.and_eq_true, Bool.not_eq_true']; omega) | (simp [*]))] at ih
      exact ih
    · refine j_iconst (v := nI 1) dX13_knownAt_51 (by decide) ?_
      refine j_iload_n dX13_knownAt_52 rfl rfl ?_
      refine j_ishl dX13_knownAt_53 ?_
      refine j_goto (tgt := 58) dX13_knownAt_54 (by decide) ?_
      refine j_ior dX13_knownAt_58 ?_
      rw [bit_or _ (by have := bst_256 (fun h => decide (dbl t p (t 1 h) true = 0)) (show i ≤ 8 by omega); show bst (fun h => decide (dbl t p (t 1 h) true = 0)) i < 256; omega) _ (by show i < 8; omega)]
      refine j_istore_n (lv2 := [_, _, _, _]) dX13_knownAt_59 rfl (by decide) rfl rfl ?_
      refine j_iinc1 (lv2 := [_, _, _, _]) dX13_knownAt_60 rfl (by decide) rfl rfl ?_
      rw [nI_1]
      refine j_goto (tgt := 23) dX13_knownAt_63 (by decide) ?_
      rw [bst, if_pos (show (fun h => decide (dbl t p (t 1 h) true = 0)) i = true by first | assumption | simp_all | (simp only [decide_eq_true_eq, Bool.and_eq_true, Bool.not_eq_true']; omega) | (simp [*]))] at ih
      exact ih
theorem m_seenAt {k : Nat} (hX : XM mr) (hM : MM M) (hY : XT mr M) (hTn : mr 1000 3 = some M) (hg : GB t) (hW : WT t) (hR : RM mi M t) (h1 : k < t 0 7) (hp : post (some (.int (nI (shA t k)))) mi ml mr dom) : CT G 3 0 0 yX13_seenAt cX13_seenAt 2 (some .int) [.ref 1000, .int (nI k)] mi ml mr dom post := by
  have w := hW.1
  have q1 := hW.2.2.2.2.2.1 k h1
  have q2 := hW.2.1 _ q1.2.1
  refine enter 0 (by decide) rfl rfl (fun X => ?_)
  refine j_aload_n dX13_seenAt_0 rfl rfl ?_
  refine gR13_335 rfl dX13_seenAt_1 hTn ?_
  refine j_aload_n dX13_seenAt_4 rfl rfl ?_
  refine gR13_335 rfl dX13_seenAt_5 hTn ?_
  refine gR13_307 (kM0 hM) dX13_seenAt_8 (xM11 hY) ?_
  refine j_iload_n dX13_seenAt_11 rfl rfl ?_
  refine j_iald (kM11 hM) (inT (lM11 hM) (by show k < 8; omega) (by decide)) dX13_seenAt_12 ?_
  rw [nI_clamp (by omega), rM11 hR (by show k < 8; omega)]
  refine j_aload_n dX13_seenAt_13 rfl rfl ?_
  refine gR13_335 rfl dX13_seenAt_14 hTn ?_
  refine gR13_310 (kM0 hM) dX13_seenAt_17 (xM12 hY) ?_
  refine j_iload_n dX13_seenAt_20 rfl rfl ?_
  refine j_iald (kM12 hM) (inT (lM12 hM) (by show k < 8; omega) (by decide)) dX13_seenAt_21 ?_
  rw [nI_clamp (by omega), rM12 hR (by show k < 8; omega)]
  refine j_aload_n dX13_seenAt_22 rfl rfl ?_
  refine gR13_335 rfl dX13_seenAt_23 hTn ?_
  refine gR13_313 (kM0 hM) dX13_seenAt_26 (xM13 hY) ?_
  refine j_iload_n dX13_seenAt_29 rfl rfl ?_
  refine j_iald (kM13 hM) (inT (lM13 hM) (by show k < 8; omega) (by decide)) dX13_seenAt_30 ?_
  rw [nI_clamp (by omega), rM13 hR (by show k < 8; omega)]
  refine cV13_374 (d1 := 2) (kM0 hM) dX13_seenAt_31 (by decide) (Nat.le_of_ble_eq_true rfl) ?_
  refine m_seen hM hY hg hW hR (by have := hg 11 k; omega) (by have := hg 12 k; omega) (by have := hg 13 k; omega) ?_
  refine j_iret rfl dX13_seenAt_34 ?_
  exact hp
theorem m_fineAt {k : Nat} (hX : XM mr) (hM : MM M) (hY : XT mr M) (hTn : mr 1000 3 = some M) (hg : GB t) (hW : WT t) (hR : RM mi M t) (h1 : k < t 0 7) (hp : post (some (.int (nI (fiA t k 10)))) mi ml mr dom) : CT G 3 0 0 yX13_fineAt cX13_fineAt 2 (some .int) [.ref 1000, .int (nI k)] mi ml mr dom post := by
  have w := hW.1
  have q1 := hW.2.2.2.2.2.1 k h1
  have q2 := hW.2.1 _ q1.2.1
  unfold fiA at hp
  rw [Nat.max_eq_right q2.1] at hp
  refine enter 0 (by decide) rfl rfl (fun X => ?_)
  refine j_aload_n dX13_fineAt_0 rfl rfl ?_
  refine gR13_335 rfl dX13_fineAt_1 hTn ?_
  refine j_aload_n dX13_fineAt_4 rfl rfl ?_
  refine gR13_335 rfl dX13_fineAt_5 hTn ?_
  refine gR13_307 (kM0 hM) dX13_fineAt_8 (xM11 hY) ?_
  refine j_iload_n dX13_fineAt_11 rfl rfl ?_
  refine j_iald (kM11 hM) (inT (lM11 hM) (by show k < 8; omega) (by decide)) dX13_fineAt_12 ?_
  rw [nI_clamp (by omega), rM11 hR (by show k < 8; omega)]
  refine j_aload_n dX13_fineAt_13 rfl rfl ?_
  refine gR13_335 rfl dX13_fineAt_14 hTn ?_
  refine gR13_249 (kM0 hM) dX13_fineAt_17 (xM1 hY) ?_
  refine j_aload_n dX13_fineAt_20 rfl rfl ?_
  refine gR13_335 rfl dX13_fineAt_21 hTn ?_
  refine gR13_310 (kM0 hM) dX13_fineAt_24 (xM12 hY) ?_
  refine j_iload_n dX13_fineAt_27 rfl rfl ?_
  refine j_iald (kM12 hM) (inT (lM12 hM) (by show k < 8; omega) (by decide)) dX13_fineAt_28 ?_
  rw [nI_clamp (by omega), rM12 hR (by show k < 8; omega)]
  refine j_iald (kM1 hM) (inT (lM1 hM) (by have := hg 12 k; show t 12 k < 6; omega) (by decide)) dX13_fineAt_29 ?_
  rw [nI_clamp (by have := hg 12 k; omega), rM1 hR (by have := hg 12 k; show t 12 k < 6; omega)]
  refine j_aload_n dX13_fineAt_30 rfl rfl ?_
  refine gR13_335 rfl dX13_fineAt_31 hTn ?_
  refine gR13_313 (kM0 hM) dX13_fineAt_34 (xM13 hY) ?_
  refine j_iload_n dX13_fineAt_37 rfl rfl ?_
  refine j_iald (kM13 hM) (inT (lM13 hM) (by show k < 8; omega) (by decide)) dX13_fineAt_38 ?_
  rw [nI_clamp (by omega), rM13 hR (by show k < 8; omega)]
  refine cV13_388 (d1 := 2) (kM0 hM) dX13_fineAt_39 (by decide) (Nat.le_of_ble_eq_true rfl) ?_
  refine m_fineBy hM hY hg hW hR (by have := hg 11 k; omega) (by have := hg 1 (t 12 k); omega) (by have := hg 13 k; omega) ?_
  refine j_iret rfl dX13_fineAt_42 ?_
  exact hp
theorem fiA_le {t : TW} (hg : GB t) (k s : Nat) : fiA t k s ≤ 50000 := by
  have := hg 6 (t 11 k)
  exact Nat.le_trans (fineO_le _ _ _ _) (by omega)
theorem shA_lt (t : TW) (k : Nat) : shA t k < 32 := shw_lt _ _ _ _
theorem mx_visitB1 {x y : Int32} (hX : XM mr) (hM : MM M) (hY : XT mr M) (hTn : mr 1000 3 = some M) (hg : GB t) (hW : WT t) (hR : RM mi M t) (hb : bad x (t 0 7)) (hp : post (some (.int (-1))) (rf mi (nI 1)) ml mr dom) : CT G 4 0 0 yX13_visit cX13_visit 4 (some .int) [.ref 1000, .int x, .int y] mi ml mr dom post := by
  have w := hW.1
  have hge := hM.ge
  refine enter 1 (by decide) rfl rfl (fun X => ?_)
  refine j_aload_n dX13_visit_0 rfl rfl ?_
  refine j_iconst (v := nI 0) dX13_visit_1 (by decide) ?_
  refine pI13_51 rfl dX13_visit_2 ?_
  obtain ⟨m1, e1⟩ : ∃ m, m = up mi 1000 0 (nI 0) := ⟨_, rfl⟩
  rw [← e1]
  have hR1 : RM m1 M t := RM_lo hM (fun n hn => by rw [e1, up_off _ _ (by omega)]) hR
  refine j_iload_n dX13_visit_5 rfl rfl ?_
  refine j_istore_n (lv2 := [_, _, _, _]) dX13_visit_6 rfl (by decide) rfl rfl ?_
  refine j_aload_n dX13_visit_7 rfl rfl ?_
  refine j_iload_n dX13_visit_8 rfl rfl ?_
  refine cV13_391 (d1 := 1) rfl dX13_visit_9 (by decide) (Nat.le_of_ble_eq_true rfl) ?_
  refine m_isVisitB hX hM hY hTn hg hW hR1 hb ?_
  refine j_if_eq (tgt := 24) dX13_visit_12 (by decide) (fun h12 => ?_) (fun h12 => absurd (by decide) h12)
  refine j_aload_n dX13_visit_24 rfl rfl ?_
  refine j_iconst (v := nI 1) dX13_visit_25 (by decide) ?_
  refine cV13_57 (d1 := 1) rfl dX13_visit_26 (by decide) (Nat.le_of_ble_eq_true rfl) ?_
  refine m_refused ?_
  refine j_iret rfl dX13_visit_29 ?_
  rw [e1]; exact hp
theorem mx_visitB2 {k : Nat} {y : Int32} (hX : XM mr) (hM : MM M) (hY : XT mr M) (hTn : mr 1000 3 = some M) (hg : GB t) (hW : WT t) (hR : RM mi M t) (h1 : k < t 0 7) (hb : bad y 5) (hp : post (some (.int (-1))) (rf mi (nI 1)) ml mr dom) : CT G 4 0 0 yX13_visit cX13_visit 4 (some .int) [.ref 1000, .int (nI k), .int y] mi ml mr dom post := by
  have w := hW.1
  have hge := hM.ge
  refine enter 1 (by decide) rfl rfl (fun X => ?_)
  refine j_aload_n dX13_visit_0 rfl rfl ?_
  refine j_iconst (v := nI 0) dX13_visit_1 (by decide) ?_
  refine pI13_51 rfl dX13_visit_2 ?_
  obtain ⟨m1, e1⟩ : ∃ m, m = up mi 1000 0 (nI 0) := ⟨_, rfl⟩
  rw [← e1]
  have hR1 : RM m1 M t := RM_lo hM (fun n hn => by rw [e1, up_off _ _ (by omega)]) hR
  refine j_iload_n dX13_visit_5 rfl rfl ?_
  refine j_istore_n (lv2 := [_, _, _, _]) dX13_visit_6 rfl (by decide) rfl rfl ?_
  refine j_aload_n dX13_visit_7 rfl rfl ?_
  refine j_iload_n dX13_visit_8 rfl rfl ?_
  refine cV13_391 (d1 := 1) rfl dX13_visit_9 (by decide) (Nat.le_of_ble_eq_true rfl) ?_
  refine m_isVisitG hX hM hY hTn hg hW hR1 (by omega) ?_
  refine j_if_eq (tgt := 24) dX13_visit_12 (by decide) (fun h12 => absurd h12 (by decide)) (fun h12 => ?_)
  refine j_iload_n dX13_visit_15 rfl rfl ?_
  refine j_iconst (v := nI 0) dX13_visit_16 (by decide) ?_
  refine j_iconst (v := nI 4) dX13_visit_17 (by decide) ?_
  refine cS13_129 (d1 := 1) dX13_visit_18 (by decide) (Nat.le_of_ble_eq_true rfl) ?_
  refine m_inB (bad_in (n := 5) (by decide) (by decide) hb) ?_
  refine j_if_ne (tgt := 30) dX13_visit_21 (by decide) (fun h21 => absurd (by decide) h21) (fun h21 => ?_)
  refine j_aload_n dX13_visit_24 rfl rfl ?_
  refine j_iconst (v := nI 1) dX13_visit_25 (by decide) ?_
  refine cV13_57 (d1 := 1) rfl dX13_visit_26 (by decide) (Nat.le_of_ble_eq_true rfl) ?_
  refine m_refused ?_
  refine j_iret rfl dX13_visit_29 ?_
  rw [e1]; exact hp
theorem mx_visit0 {k : Nat} (hX : XM mr) (hM : MM M) (hY : XT mr M) (hTn : mr 1000 3 = some M) (hg : GB t) (hW : WT t) (hR : RM mi M t) (h1 : k < t 0 7) (hp : post (some (.int (nI (t 11 k)))) (fa mi) ml mr dom) : CT G 4 0 0 yX13_visit cX13_visit 4 (some .int) [.ref 1000, .int (nI k), .int (nI 0)] mi ml mr dom post := by
  have w := hW.1
  have hge := hM.ge
  refine enter 1 (by decide) rfl rfl (fun X => ?_)
  refine j_aload_n dX13_visit_0 rfl rfl ?_
  refine j_iconst (v := nI 0) dX13_visit_1 (by decide) ?_
  refine pI13_51 rfl dX13_visit_2 ?_
  obtain ⟨m1, e1⟩ : ∃ m, m = up mi 1000 0 (nI 0) := ⟨_, rfl⟩
  rw [← e1]
  have hR1 : RM m1 M t := RM_lo hM (fun n hn => by rw [e1, up_off _ _ (by omega)]) hR
  refine j_iload_n dX13_visit_5 rfl rfl ?_
  refine j_istore_n (lv2 := [_, _, _, _]) dX13_visit_6 rfl (by decide) rfl rfl ?_
  refine j_aload_n dX13_visit_7 rfl rfl ?_
  refine j_iload_n dX13_visit_8 rfl rfl ?_
  refine cV13_391 (d1 := 1) rfl dX13_visit_9 (by decide) (Nat.le_of_ble_eq_true rfl) ?_
  refine m_isVisitG hX hM hY hTn hg hW hR1 (by omega) ?_
  refine j_if_eq (tgt := 24) dX13_visit_12 (by decide) (fun h12 => absurd h12 (by decide)) (fun h12 => ?_)
  refine j_iload_n dX13_visit_15 rfl rfl ?_
  refine j_iconst (v := nI 0) dX13_visit_16 (by decide) ?_
  refine j_iconst (v := nI 4) dX13_visit_17 (by decide) ?_
  refine cS13_129 (d1 := 1) dX13_visit_18 (by decide) (Nat.le_of_ble_eq_true rfl) ?_
  refine m_inG (by show 0 ≤ 0; omega) (by show 0 ≤ 4; omega) (by decide) ?_
  refine j_if_ne (tgt := 30) dX13_visit_21 (by decide) (fun h21 => ?_) (fun h21 => absurd h21 (by decide))
  refine j_iload_n dX13_visit_30 rfl rfl ?_
  refine j_tableIn (tgt := 60) dX13_visit_31 (by decide) (by decide) (by rfl) (by decide) ?_
  refine j_aload_n dX13_visit_60 rfl rfl ?_
  refine j_aload_n dX13_visit_61 rfl rfl ?_
  refine gR13_335 rfl dX13_visit_62 hTn ?_
  refine gR13_307 (kM0 hM) dX13_visit_65 (xM11 hY) ?_
  refine j_iload_n dX13_visit_68 rfl rfl ?_
  refine j_iald (kM11 hM) (inT (lM11 hM) (by show k < 8; omega) (by decide)) dX13_visit_69 ?_
  rw [nI_clamp (by omega), rM11 hR1 (by show k < 8; omega)]
  refine cV13_61 (d1 := 1) rfl dX13_visit_70 (by decide) (Nat.le_of_ble_eq_true rfl) ?_
  refine m_fair ?_
  refine j_iret rfl dX13_visit_73 ?_
  rw [e1]; exact hp
theorem mx_visit1 {k : Nat} (hX : XM mr) (hM : MM M) (hY : XT mr M) (hTn : mr 1000 3 = some M) (hg : GB t) (hW : WT t) (hR : RM mi M t) (h1 : k < t 0 7) (hp : post (some (.int (nI (t 12 k)))) (fa mi) ml mr dom) : CT G 4 0 0 yX13_visit cX13_visit 4 (some .int) [.ref 1000, .int (nI k), .int (nI 1)] mi ml mr dom post := by
  have w := hW.1
  have hge := hM.ge
  refine enter 1 (by decide) rfl rfl (fun X => ?_)
  refine j_aload_n dX13_visit_0 rfl rfl ?_
  refine j_iconst (v := nI 0) dX13_visit_1 (by decide) ?_
  refine pI13_51 rfl dX13_visit_2 ?_
  obtain ⟨m1, e1⟩ : ∃ m, m = up mi 1000 0 (nI 0) := ⟨_, rfl⟩
  rw [← e1]
  have hR1 : RM m1 M t := RM_lo hM (fun n hn => by rw [e1, up_off _ _ (by omega)]) hR
  refine j_iload_n dX13_visit_5 rfl rfl ?_
  refine j_istore_n (lv2 := [_, _, _, _]) dX13_visit_6 rfl (by decide) rfl rfl ?_
  refine j_aload_n dX13_visit_7 rfl rfl ?_
  refine j_iload_n dX13_visit_8 rfl rfl ?_
  refine cV13_391 (d1 := 1) rfl dX13_visit_9 (by decide) (Nat.le_of_ble_eq_true rfl) ?_
  refine m_isVisitG hX hM hY hTn hg hW hR1 (by omega) ?_
  refine j_if_eq (tgt := 24) dX13_visit_12 (by decide) (fun h12 => absurd h12 (by decide)) (fun h12 => ?_)
  refine j_iload_n dX13_visit_15 rfl rfl ?_
  refine j_iconst (v := nI 0) dX13_visit_16 (by decide) ?_
  refine j_iconst (v := nI 4) dX13_visit_17 (by decide) ?_
  refine cS13_129 (d1 := 1) dX13_visit_18 (by decide) (Nat.le_of_ble_eq_true rfl) ?_
  refine m_inG (by show 0 ≤ 1; omega) (by show 1 ≤ 4; omega) (by decide) ?_
  refine j_if_ne (tgt := 30) dX13_visit_21 (by decide) (fun h21 => ?_) (fun h21 => absurd h21 (by decide))
  refine j_iload_n dX13_visit_30 rfl rfl ?_
  refine j_tableIn (tgt := 74) dX13_visit_31 (by decide) (by decide) (by rfl) (by decide) ?_
  refine j_aload_n dX13_visit_74 rfl rfl ?_
  refine j_aload_n dX13_visit_75 rfl rfl ?_
  refine gR13_335 rfl dX13_visit_76 hTn ?_
  refine gR13_310 (kM0 hM) dX13_visit_79 (xM12 hY) ?_
  refine j_iload_n dX13_visit_82 rfl rfl ?_
  refine j_iald (kM12 hM) (inT (lM12 hM) (by show k < 8; omega) (by decide)) dX13_visit_83 ?_
  rw [nI_clamp (by omega), rM12 hR1 (by show k < 8; omega)]
  refine cV13_61 (d1 := 1) rfl dX13_visit_84 (by decide) (Nat.le_of_ble_eq_true rfl) ?_
  refine m_fair ?_
  refine j_iret rfl dX13_visit_87 ?_
  rw [e1]; exact hp
theorem mx_visit2 {k : Nat} (hX : XM mr) (hM : MM M) (hY : XT mr M) (hTn : mr 1000 3 = some M) (hg : GB t) (hW : WT t) (hR : RM mi M t) (h1 : k < t 0 7) (hp : post (some (.int (nI (t 13 k)))) (fa mi) ml mr dom) : CT G 4 0 0 yX13_visit cX13_visit 4 (some .int) [.ref 1000, .int (nI k), .int (nI 2)] mi ml mr dom post := by
  have w := hW.1
  have hge := hM.ge
  refine enter 1 (by decide) rfl rfl (fun X => ?_)
  refine j_aload_n dX13_visit_0 rfl rfl ?_
  refine j_iconst (v := nI 0) dX13_visit_1 (by decide) ?_
  refine pI13_51 rfl dX13_visit_2 ?_
  obtain ⟨m1, e1⟩ : ∃ m, m = up mi 1000 0 (nI 0) := ⟨_, rfl⟩
  rw [← e1]
  have hR1 : RM m1 M t := RM_lo hM (fun n hn => by rw [e1, up_off _ _ (by omega)]) hR
  refine j_iload_n dX13_visit_5 rfl rfl ?_
  refine j_istore_n (lv2 := [_, _, _, _]) dX13_visit_6 rfl (by decide) rfl rfl ?_
  refine j_aload_n dX13_visit_7 rfl rfl ?_
  refine j_iload_n dX13_visit_8 rfl rfl ?_
  refine cV13_391 (d1 := 1) rfl dX13_visit_9 (by decide) (Nat.le_of_ble_eq_true rfl) ?_
  refine m_isVisitG hX hM hY hTn hg hW hR1 (by omega) ?_
  refine j_if_eq (tgt := 24) dX13_visit_12 (by decide) (fun h12 => absurd h12 (by decide)) (fun h12 => ?_)
  refine j_iload_n dX13_visit_15 rfl rfl ?_
  refine j_iconst (v := nI 0) dX13_visit_16 (by decide) ?_
  refine j_iconst (v := nI 4) dX13_visit_17 (by decide) ?_
  refine cS13_129 (d1 := 1) dX13_visit_18 (by decide) (Nat.le_of_ble_eq_true rfl) ?_
  refine m_inG (by show 0 ≤ 2; omega) (by show 2 ≤ 4; omega) (by decide) ?_
  refine j_if_ne (tgt := 30) dX13_visit_21 (by decide) (fun h21 => ?_) (fun h21 => absurd h21 (by decide))
  refine j_iload_n dX13_visit_30 rfl rfl ?_
  refine j_tableIn (tgt := 88) dX13_visit_31 (by decide) (by decide) (by rfl) (by decide) ?_
  refine j_aload_n dX13_visit_88 rfl rfl ?_
  refine j_aload_n dX13_visit_89 rfl rfl ?_
  refine gR13_335 rfl dX13_visit_90 hTn ?_
  refine gR13_313 (kM0 hM) dX13_visit_93 (xM13 hY) ?_
  refine j_iload_n dX13_visit_96 rfl rfl ?_
  refine j_iald (kM13 hM) (inT (lM13 hM) (by show k < 8; omega) (by decide)) dX13_visit_97 ?_
  rw [nI_clamp (by omega), rM13 hR1 (by show k < 8; omega)]
  refine cV13_61 (d1 := 1) rfl dX13_visit_98 (by decide) (Nat.le_of_ble_eq_true rfl) ?_
  refine m_fair ?_
  refine j_iret rfl dX13_visit_101 ?_
  rw [e1]; exact hp
theorem mx_visit3 {k : Nat} (hX : XM mr) (hM : MM M) (hY : XT mr M) (hTn : mr 1000 3 = some M) (hg : GB t) (hW : WT t) (hR : RM mi M t) (h1 : k < t 0 7) (hp : post (some (.int (nI (shA t k)))) (fa mi) ml mr dom) : CT G 4 0 0 yX13_visit cX13_visit 4 (some .int) [.ref 1000, .int (nI k), .int (nI 3)] mi ml mr dom post := by
  have w := hW.1
  have hge := hM.ge
  refine enter 1 (by decide) rfl rfl (fun X => ?_)
  refine j_aload_n dX13_visit_0 rfl rfl ?_
  refine j_iconst (v := nI 0) dX13_visit_1 (by decide) ?_
  refine pI13_51 rfl dX13_visit_2 ?_
  obtain ⟨m1, e1⟩ : ∃ m, m = up mi 1000 0 (nI 0) := ⟨_, rfl⟩
  rw [← e1]
  have hR1 : RM m1 M t := RM_lo hM (fun n hn => by rw [e1, up_off _ _ (by omega)]) hR
  refine j_iload_n dX13_visit_5 rfl rfl ?_
  refine j_istore_n (lv2 := [_, _, _, _]) dX13_visit_6 rfl (by decide) rfl rfl ?_
  refine j_aload_n dX13_visit_7 rfl rfl ?_
  refine j_iload_n dX13_visit_8 rfl rfl ?_
  refine cV13_391 (d1 := 1) rfl dX13_visit_9 (by decide) (Nat.le_of_ble_eq_true rfl) ?_
  refine m_isVisitG hX hM hY hTn hg hW hR1 (by omega) ?_
  refine j_if_eq (tgt := 24) dX13_visit_12 (by decide) (fun h12 => absurd h12 (by decide)) (fun h12 => ?_)
  refine j_iload_n dX13_visit_15 rfl rfl ?_
  refine j_iconst (v := nI 0) dX13_visit_16 (by decide) ?_
  refine j_iconst (v := nI 4) dX13_visit_17 (by decide) ?_
  refine cS13_129 (d1 := 1) dX13_visit_18 (by decide) (Nat.le_of_ble_eq_true rfl) ?_
  refine m_inG (by show 0 ≤ 3; omega) (by show 3 ≤ 4; omega) (by decide) ?_
  refine j_if_ne (tgt := 30) dX13_visit_21 (by decide) (fun h21 => ?_) (fun h21 => absurd h21 (by decide))
  refine j_iload_n dX13_visit_30 rfl rfl ?_
  refine j_tableIn (tgt := 102) dX13_visit_31 (by decide) (by decide) (by rfl) (by decide) ?_
  refine j_aload_n dX13_visit_102 rfl rfl ?_
  refine j_aload_n dX13_visit_103 rfl rfl ?_
  refine j_iload_n dX13_visit_104 rfl rfl ?_
  refine cV13_394 (d1 := 3) rfl dX13_visit_105 (by decide) (Nat.le_of_ble_eq_true rfl) ?_
  refine m_seenAt hX hM hY hTn hg hW hR1 (by omega) ?_
  refine cV13_61 (d1 := 1) rfl dX13_visit_108 (by decide) (Nat.le_of_ble_eq_true rfl) ?_
  refine m_fair ?_
  refine j_iret rfl dX13_visit_111 ?_
  rw [e1]; exact hp
theorem mx_visit4 {k : Nat} (hX : XM mr) (hM : MM M) (hY : XT mr M) (hTn : mr 1000 3 = some M) (hg : GB t) (hW : WT t) (hR : RM mi M t) (h1 : k < t 0 7) (hp : post (some (.int (nI (fiA t k 10)))) (fa mi) ml mr dom) : CT G 4 0 0 yX13_visit cX13_visit 4 (some .int) [.ref 1000, .int (nI k), .int (nI 4)] mi ml mr dom post := by
  have w := hW.1
  have hge := hM.ge
  refine enter 1 (by decide) rfl rfl (fun X => ?_)
  refine j_aload_n dX13_visit_0 rfl rfl ?_
  refine j_iconst (v := nI 0) dX13_visit_1 (by decide) ?_
  refine pI13_51 rfl dX13_visit_2 ?_
  obtain ⟨m1, e1⟩ : ∃ m, m = up mi 1000 0 (nI 0) := ⟨_, rfl⟩
  rw [← e1]
  have hR1 : RM m1 M t := RM_lo hM (fun n hn => by rw [e1, up_off _ _ (by omega)]) hR
  refine j_iload_n dX13_visit_5 rfl rfl ?_
  refine j_istore_n (lv2 := [_, _, _, _]) dX13_visit_6 rfl (by decide) rfl rfl ?_
  refine j_aload_n dX13_visit_7 rfl rfl ?_
  refine j_iload_n dX13_visit_8 rfl rfl ?_
  refine cV13_391 (d1 := 1) rfl dX13_visit_9 (by decide) (Nat.le_of_ble_eq_true rfl) ?_
  refine m_isVisitG hX hM hY hTn hg hW hR1 (by omega) ?_
  refine j_if_eq (tgt := 24) dX13_visit_12 (by decide) (fun h12 => absurd h12 (by decide)) (fun h12 => ?_)
  refine j_iload_n dX13_visit_15 rfl rfl ?_
  refine j_iconst (v := nI 0) dX13_visit_16 (by decide) ?_
  refine j_iconst (v := nI 4) dX13_visit_17 (by decide) ?_
  refine cS13_129 (d1 := 1) dX13_visit_18 (by decide) (Nat.le_of_ble_eq_true rfl) ?_
  refine m_inG (by show 0 ≤ 4; omega) (by show 4 ≤ 4; omega) (by decide) ?_
  refine j_if_ne (tgt := 30) dX13_visit_21 (by decide) (fun h21 => ?_) (fun h21 => absurd h21 (by decide))
  refine j_iload_n dX13_visit_30 rfl rfl ?_
  refine j_tableOut (tgt := 112) dX13_visit_31 (by decide) (by decide) ?_
  refine j_aload_n dX13_visit_112 rfl rfl ?_
  refine j_aload_n dX13_visit_113 rfl rfl ?_
  refine j_iload_n dX13_visit_114 rfl rfl ?_
  refine cV13_397 (d1 := 3) rfl dX13_visit_115 (by decide) (Nat.le_of_ble_eq_true rfl) ?_
  refine m_fineAt hX hM hY hTn hg hW hR1 (by omega) ?_
  refine cV13_61 (d1 := 1) rfl dX13_visit_118 (by decide) (Nat.le_of_ble_eq_true rfl) ?_
  refine m_fair ?_
  refine j_iret rfl dX13_visit_121 ?_
  rw [e1]; exact hp
theorem mx_finesB {x : Int32} (hX : XM mr) (hM : MM M) (hY : XT mr M) (hTn : mr 1000 3 = some M) (hg : GB t) (hW : WT t) (hR : RM mi M t) (hb : bad x (t 0 5)) (hp : post (some (.int (-1))) (rf mi (nI 1)) ml mr dom) : CT G 4 0 0 yX13_fines cX13_fines 4 (some .int) [.ref 1000, .int x] mi ml mr dom post := by
  have w := hW.1
  have hge := hM.ge
  refine enter 2 (by decide) rfl rfl (fun X => ?_)
  refine j_aload_n dX13_fines_0 rfl rfl ?_
  refine j_iconst (v := nI 0) dX13_fines_1 (by decide) ?_
  refine pI13_51 rfl dX13_fines_2 ?_
  obtain ⟨m1, e1⟩ : ∃ m, m = up mi 1000 0 (nI 0) := ⟨_, rfl⟩
  rw [← e1]
  have hR1 : RM m1 M t := RM_lo hM (fun n hn => by rw [e1, up_off _ _ (by omega)]) hR
  refine j_aload_n dX13_fines_5 rfl rfl ?_
  refine j_iload_n dX13_fines_6 rfl rfl ?_
  refine cV13_355 (d1 := 1) rfl dX13_fines_7 (by decide) (Nat.le_of_ble_eq_true rfl) ?_
  refine m_isPersonB hX hM hY hTn hg hW hR1 hb ?_
  refine j_if_ne (tgt := 19) dX13_fines_10 (by decide) (fun h10 => absurd (by decide) h10) (fun h10 => ?_)
  refine j_aload_n dX13_fines_13 rfl rfl ?_
  refine j_iconst (v := nI 1) dX13_fines_14 (by decide) ?_
  refine cV13_57 (d1 := 1) rfl dX13_fines_15 (by decide) (Nat.le_of_ble_eq_true rfl) ?_
  refine m_refused ?_
  refine j_iret rfl dX13_fines_18 ?_
  rw [e1]; exact hp
theorem mx_fines {p : Nat} (hX : XM mr) (hM : MM M) (hY : XT mr M) (hTn : mr 1000 3 = some M) (hg : GB t) (hW : WT t) (hR : RM mi M t) (h1 : p < t 0 5) (hp : post (some (.int (nI (sm (fun k => if t 11 k = p then fiA t k 10 else 0) (t 0 7))))) (fa mi) ml mr dom) : CT G 4 0 0 yX13_fines cX13_fines 4 (some .int) [.ref 1000, .int (nI p)] mi ml mr dom post := by
  have w := hW.1
  have hge := hM.ge
  refine enter 2 (by decide) rfl rfl (fun X => ?_)
  refine j_aload_n dX13_fines_0 rfl rfl ?_
  refine j_iconst (v := nI 0) dX13_fines_1 (by decide) ?_
  refine pI13_51 rfl dX13_fines_2 ?_
  obtain ⟨m1, e1⟩ : ∃ m, m = up mi 1000 0 (nI 0) := ⟨_, rfl⟩
  rw [← e1]
  have hR1 : RM m1 M t := RM_lo hM (fun n hn => by rw [e1, up_off _ _ (by omega)]) hR
  refine j_aload_n dX13_fines_5 rfl rfl ?_
  refine j_iload_n dX13_fines_6 rfl rfl ?_
  refine cV13_355 (d1 := 1) rfl dX13_fines_7 (by decide) (Nat.le_of_ble_eq_true rfl) ?_
  refine m_isPersonG hX hM hY hTn hg hW hR1 (by omega) ?_
  refine j_if_ne (tgt := 19) dX13_fines_10 (by decide) (fun h10 => ?_) (fun h10 => absurd h10 (by decide))
  refine j_iconst (v := nI 0) dX13_fines_19 (by decide) ?_
  refine j_istore_n (lv2 := [_, _, _, _]) dX13_fines_20 rfl (by decide) rfl rfl ?_
  refine j_iconst (v := nI 0) dX13_fines_21 (by decide) ?_
  refine j_istore_n (lv2 := [_, _, _, _]) dX13_fines_22 rfl (by decide) rfl rfl ?_
  refine lq (n := t 0 7) (H := fun i => J cX13_fines 4 yX13_fines.cls yX13_fines.name (some .int) 4 G X post 0 0 m1 ml mr dom 23 [some (.ref 1000), some (.int (nI p)), some (.int (nI (sm (fun k => if t 11 k = p then fiA t k 10 else 0) i))), some (.int (nI i))] []) ?_ (fun i hi ih => ?_)
  · skip
    refine j_iload_n dX13_fines_23 rfl rfl ?_
    refine j_aload_n dX13_fines_24 rfl rfl ?_
    refine gR13_335 rfl dX13_fines_25 hTn ?_
    refine gI13_302 (kM0 hM) dX13_fines_28 ?_
    rw [hR1.1 7 (by decide)]
    refine j_icmp_ge (tgt := 65) dX13_fines_31 (by decide) (fun h31 => ?_) (fun h31 => by exfalso; rw [nI_leI (by have := hg 0 7; omega) (by have := hg 0 7; omega)] at h31; have := hg 0 7; omega)
    refine j_aload_n dX13_fines_65 rfl rfl ?_
    refine j_iload_n dX13_fines_66 rfl rfl ?_
    refine cV13_61 (d1 := 1) rfl dX13_fines_67 (by decide) (Nat.le_of_ble_eq_true rfl) ?_
    refine m_fair ?_
    refine j_iret rfl dX13_fines_70 ?_
    rw [e1]; exact hp
  · skip
    refine j_iload_n dX13_fines_23 rfl rfl ?_
    refine j_aload_n dX13_fines_24 rfl rfl ?_
    refine gR13_335 rfl dX13_fines_25 hTn ?_
    refine gI13_302 (kM0 hM) dX13_fines_28 ?_
    rw [hR1.1 7 (by decide)]
    refine j_icmp_ge (tgt := 65) dX13_fines_31 (by decide) (fun h31 => by exfalso; rw [nI_leI (by have := hg 0 7; omega) (by omega)] at h31; have := hg 0 7; omega) (fun h31 => ?_)
    refine j_iload_n dX13_fines_34 rfl rfl ?_
    refine j_aload_n dX13_fines_35 rfl rfl ?_
    refine gR13_335 rfl dX13_fines_36 hTn ?_
    refine gR13_307 (kM0 hM) dX13_fines_39 (xM11 hY) ?_
    refine j_iload_n dX13_fines_42 rfl rfl ?_
    refine j_iald (kM11 hM) (inT (lM11 hM) (by show i < 8; omega) (by decide)) dX13_fines_43 ?_
    rw [nI_clamp (by omega), rM11 hR1 (by show i < 8; omega)]
    refine j_iload_n dX13_fines_44 rfl rfl ?_
    refine j_icmp_ne (tgt := 56) dX13_fines_45 (by decide) (fun h45 => ?_) (fun h45 => ?_)
    all_goals rw [nI_eq (by have := hg 11 i; omega) (by omega)] at h45
    · refine j_iconst (v := nI 0) dX13_fines_56 (by decide) ?_
      refine j_iadd dX13_fines_57 ?_
      rw [nI_add]
      refine j_istore_n (lv2 := [_, _, _, _]) dX13_fines_58 rfl (by decide) rfl rfl ?_
      refine j_iinc1 (lv2 := [_, _, _, _]) dX13_fines_59 rfl (by decide) rfl rfl ?_
      rw [nI_1]
      refine j_goto (tgt := 23) dX13_fines_62 (by decide) ?_
      rw [sm, if_neg h45] at ih
      exact ih
    · refine j_aload_n dX13_fines_48 rfl rfl ?_
      refine j_iload_n dX13_fines_49 rfl rfl ?_
      refine cV13_397 (d1 := 3) rfl dX13_fines_50 (by decide) (Nat.le_of_ble_eq_true rfl) ?_
      refine m_fineAt hX hM hY hTn hg hW hR1 (by omega) ?_
      refine j_goto (tgt := 57) dX13_fines_53 (by decide) ?_
      refine j_iadd dX13_fines_57 ?_
      rw [nI_add]
      refine j_istore_n (lv2 := [_, _, _, _]) dX13_fines_58 rfl (by decide) rfl rfl ?_
      refine j_iinc1 (lv2 := [_, _, _, _]) dX13_fines_59 rfl (by decide) rfl rfl ?_
      rw [nI_1]
      refine j_goto (tgt := 23) dX13_fines_62 (by decide) ?_
      rw [sm, if_pos h45] at ih
      exact ih
theorem shr2 : ∀ n, n < 32 → nI n >>> (nI 2 &&& 31) = nI (n / 4) := by decide +kernel
theorem mx_baresB {x : Int32} (hX : XM mr) (hM : MM M) (hY : XT mr M) (hTn : mr 1000 3 = some M) (hg : GB t) (hW : WT t) (hR : RM mi M t) (hb : bad x (t 0 5)) (hp : post (some (.int (-1))) (rf mi (nI 1)) ml mr dom) : CT G 4 0 0 yX13_bares cX13_bares 4 (some .int) [.ref 1000, .int x] mi ml mr dom post := by
  have w := hW.1
  have hge := hM.ge
  refine enter 2 (by decide) rfl rfl (fun X => ?_)
  refine j_aload_n dX13_bares_0 rfl rfl ?_
  refine j_iconst (v := nI 0) dX13_bares_1 (by decide) ?_
  refine pI13_51 rfl dX13_bares_2 ?_
  obtain ⟨m1, e1⟩ : ∃ m, m = up mi 1000 0 (nI 0) := ⟨_, rfl⟩
  rw [← e1]
  have hR1 : RM m1 M t := RM_lo hM (fun n hn => by rw [e1, up_off _ _ (by omega)]) hR
  refine j_aload_n dX13_bares_5 rfl rfl ?_
  refine j_iload_n dX13_bares_6 rfl rfl ?_
  refine cV13_355 (d1 := 1) rfl dX13_bares_7 (by decide) (Nat.le_of_ble_eq_true rfl) ?_
  refine m_isPersonB hX hM hY hTn hg hW hR1 hb ?_
  refine j_if_ne (tgt := 19) dX13_bares_10 (by decide) (fun h10 => absurd (by decide) h10) (fun h10 => ?_)
  refine j_aload_n dX13_bares_13 rfl rfl ?_
  refine j_iconst (v := nI 1) dX13_bares_14 (by decide) ?_
  refine cV13_57 (d1 := 1) rfl dX13_bares_15 (by decide) (Nat.le_of_ble_eq_true rfl) ?_
  refine m_refused ?_
  refine j_iret rfl dX13_bares_18 ?_
  rw [e1]; exact hp
theorem mx_bares {p : Nat} (hX : XM mr) (hM : MM M) (hY : XT mr M) (hTn : mr 1000 3 = some M) (hg : GB t) (hW : WT t) (hR : RM mi M t) (h1 : p < t 0 5) (hp : post (some (.int (nI (bst (fun k => decide (t 11 k = p) && decide (shA t k / 4 ≠ 0)) (t 0 7))))) (fa mi) ml mr dom) : CT G 4 0 0 yX13_bares cX13_bares 4 (some .int) [.ref 1000, .int (nI p)] mi ml mr dom post := by
  have w := hW.1
  have hge := hM.ge
  refine enter 2 (by decide) rfl rfl (fun X => ?_)
  refine j_aload_n dX13_bares_0 rfl rfl ?_
  refine j_iconst (v := nI 0) dX13_bares_1 (by decide) ?_
  refine pI13_51 rfl dX13_bares_2 ?_
  obtain ⟨m1, e1⟩ : ∃ m, m = up mi 1000 0 (nI 0) := ⟨_, rfl⟩
  rw [← e1]
  have hR1 : RM m1 M t := RM_lo hM (fun n hn => by rw [e1, up_off _ _ (by omega)]) hR
  refine j_aload_n dX13_bares_5 rfl rfl ?_
  refine j_iload_n dX13_bares_6 rfl rfl ?_
  refine cV13_355 (d1 := 1) rfl dX13_bares_7 (by decide) (Nat.le_of_ble_eq_true rfl) ?_
  refine m_isPersonG hX hM hY hTn hg hW hR1 (by omega) ?_
  refine j_if_ne (tgt := 19) dX13_bares_10 (by decide) (fun h10 => ?_) (fun h10 => absurd h10 (by decide))
  refine j_iconst (v := nI 0) dX13_bares_19 (by decide) ?_
  refine j_istore_n (lv2 := [_, _, _, _]) dX13_bares_20 rfl (by decide) rfl rfl ?_
  refine j_iconst (v := nI 0) dX13_bares_21 (by decide) ?_
  refine j_istore_n (lv2 := [_, _, _, _]) dX13_bares_22 rfl (by decide) rfl rfl ?_
  refine lq (n := t 0 7) (H := fun i => J cX13_bares 4 yX13_bares.cls yX13_bares.name (some .int) 4 G X post 0 0 m1 ml mr dom 23 [some (.ref 1000), some (.int (nI p)), some (.int (nI (bst (fun k => decide (t 11 k = p) && decide (shA t k / 4 ≠ 0)) i))), some (.int (nI i))] []) ?_ (fun i hi ih => ?_)
  · skip
    refine j_iload_n dX13_bares_23 rfl rfl ?_
    refine j_aload_n dX13_bares_24 rfl rfl ?_
    refine gR13_335 rfl dX13_bares_25 hTn ?_
    refine gI13_302 (kM0 hM) dX13_bares_28 ?_
    rw [hR1.1 7 (by decide)]
    refine j_icmp_ge (tgt := 73) dX13_bares_31 (by decide) (fun h31 => ?_) (fun h31 => by exfalso; rw [nI_leI (by have := hg 0 7; omega) (by have := hg 0 7; omega)] at h31; have := hg 0 7; omega)
    refine j_aload_n dX13_bares_73 rfl rfl ?_
    refine j_iload_n dX13_bares_74 rfl rfl ?_
    refine cV13_61 (d1 := 1) rfl dX13_bares_75 (by decide) (Nat.le_of_ble_eq_true rfl) ?_
    refine m_fair ?_
    refine j_iret rfl dX13_bares_78 ?_
    rw [e1]; exact hp
  · skip
    refine j_iload_n dX13_bares_23 rfl rfl ?_
    refine j_aload_n dX13_bares_24 rfl rfl ?_
    refine gR13_335 rfl dX13_bares_25 hTn ?_
    refine gI13_302 (kM0 hM) dX13_bares_28 ?_
    rw [hR1.1 7 (by decide)]
    refine j_icmp_ge (tgt := 73) dX13_bares_31 (by decide) (fun h31 => by exfalso; rw [nI_leI (by have := hg 0 7; omega) (by omega)] at h31; have := hg 0 7; omega) (fun h31 => ?_)
    refine j_iload_n dX13_bares_34 rfl rfl ?_
    refine j_aload_n dX13_bares_35 rfl rfl ?_
    refine gR13_335 rfl dX13_bares_36 hTn ?_
    refine gR13_307 (kM0 hM) dX13_bares_39 (xM11 hY) ?_
    refine j_iload_n dX13_bares_42 rfl rfl ?_
    refine j_iald (kM11 hM) (inT (lM11 hM) (by show i < 8; omega) (by decide)) dX13_bares_43 ?_
    rw [nI_clamp (by omega), rM11 hR1 (by show i < 8; omega)]
    refine j_iload_n dX13_bares_44 rfl rfl ?_
    refine j_icmp_ne (tgt := 64) dX13_bares_45 (by decide) (fun h45 => ?_) (fun h45 => ?_)
    all_goals rw [nI_eq (by have := hg 11 i; omega) (by omega)] at h45
    · refine j_iconst (v := nI 0) dX13_bares_64 (by decide) ?_
      refine j_ior dX13_bares_65 ?_
      rw [or_0]
      refine j_istore_n (lv2 := [_, _, _, _]) dX13_bares_66 rfl (by decide) rfl rfl ?_
      refine j_iinc1 (lv2 := [_, _, _, _]) dX13_bares_67 rfl (by decide) rfl rfl ?_
      rw [nI_1]
      refine j_goto (tgt := 23) dX13_bares_70 (by decide) ?_
      rw [bst, if_neg (show ¬ (fun k => decide (t 11 k = p) && decide (shA t k / 4 ≠ 0)) i = true by first | assumption | simp_all | (simp only [decide_eq_true_eq, Bool.and_eq_true, Bool.not_eq_true']; omega) | (simp [*]))] at ih
      exact ih
    · refine j_aload_n dX13_bares_48 rfl rfl ?_
      refine j_iload_n dX13_bares_49 rfl rfl ?_
      refine cV13_394 (d1 := 3) rfl dX13_bares_50 (by decide) (Nat.le_of_ble_eq_true rfl) ?_
      refine m_seenAt hX hM hY hTn hg hW hR1 (by omega) ?_
      refine j_iconst (v := nI 2) dX13_bares_53 (by decide) ?_
      refine j_ishr dX13_bares_54 ?_
      rw [shr2 _ (by have := shA_lt t i; omega)]
      refine j_if_eq (tgt := 64) dX13_bares_55 (by decide) (fun h55 => ?_) (fun h55 => ?_)
      all_goals rw [show (0 : Int32) = nI 0 from rfl, nI_eq (by have := shA_lt t i; omega) (by decide)] at h55
      · refine j_iconst (v := nI 0) dX13_bares_64 (by decide) ?_
        refine j_ior dX13_bares_65 ?_
        rw [or_0]
        refine j_istore_n (lv2 := [_, _, _, _]) dX13_bares_66 rfl (by decide) rfl rfl ?_
        refine j_iinc1 (lv2 := [_, _, _, _]) dX13_bares_67 rfl (by decide) rfl rfl ?_
        rw [nI_1]
        refine j_goto (tgt := 23) dX13_bares_70 (by decide) ?_
        rw [bst, if_neg (show ¬ (fun k => decide (t 11 k = p) && decide (shA t k / 4 ≠ 0)) i = true by first | assumption | simp_all | (simp only [decide_eq_true_eq, Bool.and_eq_true, Bool.not_eq_true']; omega) | (simp [*]))] at ih
        exact ih
      · refine j_iconst (v := nI 1) dX13_bares_58 (by decide) ?_
        refine j_iload_n dX13_bares_59 rfl rfl ?_
        refine j_ishl dX13_bares_60 ?_
        refine j_goto (tgt := 65) dX13_bares_61 (by decide) ?_
        refine j_ior dX13_bares_65 ?_
        rw [bit_or _ (by have := bst_256 (fun k => decide (t 11 k = p) && decide (shA t k / 4 ≠ 0)) (show i ≤ 8 by omega); show bst (fun k => decide (t 11 k = p) && decide (shA t k / 4 ≠ 0)) i < 256; omega) _ (by show i < 8; omega)]
        refine j_istore_n (lv2 := [_, _, _, _]) dX13_bares_66 rfl (by decide) rfl rfl ?_
        refine j_iinc1 (lv2 := [_, _, _, _]) dX13_bares_67 rfl (by decide) rfl rfl ?_
        rw [nI_1]
        refine j_goto (tgt := 23) dX13_bares_70 (by decide) ?_
        rw [bst, if_pos (show (fun k => decide (t 11 k = p) && decide (shA t k / 4 ≠ 0)) i = true by first | assumption | simp_all | (simp only [decide_eq_true_eq, Bool.and_eq_true, Bool.not_eq_true']; omega) | (simp [*]))] at ih
        exact ih
theorem mx_apartB1 {x y : Int32} (hX : XM mr) (hM : MM M) (hY : XT mr M) (hTn : mr 1000 3 = some M) (hg : GB t) (hW : WT t) (hR : RM mi M t) (hb : bad x (t 0 5)) (hp : post (some (.int (-1))) (rf mi (nI 1)) ml mr dom) : CT G 4 0 0 yX13_apart cX13_apart 5 (some .int) [.ref 1000, .int x, .int y] mi ml mr dom post := by
  have w := hW.1
  have hge := hM.ge
  refine enter 2 (by decide) rfl rfl (fun X => ?_)
  refine j_aload_n dX13_apart_0 rfl rfl ?_
  refine j_iconst (v := nI 0) dX13_apart_1 (by decide) ?_
  refine pI13_51 rfl dX13_apart_2 ?_
  obtain ⟨m1, e1⟩ : ∃ m, m = up mi 1000 0 (nI 0) := ⟨_, rfl⟩
  rw [← e1]
  have hR1 : RM m1 M t := RM_lo hM (fun n hn => by rw [e1, up_off _ _ (by omega)]) hR
  refine j_aload_n dX13_apart_5 rfl rfl ?_
  refine j_iload_n dX13_apart_6 rfl rfl ?_
  refine cV13_355 (d1 := 1) rfl dX13_apart_7 (by decide) (Nat.le_of_ble_eq_true rfl) ?_
  refine m_isPersonB hX hM hY hTn hg hW hR1 hb ?_
  refine j_if_eq (tgt := 26) dX13_apart_10 (by decide) (fun h10 => ?_) (fun h10 => absurd (by decide) h10)
  refine j_aload_n dX13_apart_26 rfl rfl ?_
  refine j_iconst (v := nI 1) dX13_apart_27 (by decide) ?_
  refine cV13_57 (d1 := 1) rfl dX13_apart_28 (by decide) (Nat.le_of_ble_eq_true rfl) ?_
  refine m_refused ?_
  refine j_iret rfl dX13_apart_31 ?_
  rw [e1]; exact hp
theorem mx_apartB2 {p : Nat} {y : Int32} (hX : XM mr) (hM : MM M) (hY : XT mr M) (hTn : mr 1000 3 = some M) (hg : GB t) (hW : WT t) (hR : RM mi M t) (h1 : p < t 0 5) (hb : bad y (t 0 5)) (hp : post (some (.int (-1))) (rf mi (nI 1)) ml mr dom) : CT G 4 0 0 yX13_apart cX13_apart 5 (some .int) [.ref 1000, .int (nI p), .int y] mi ml mr dom post := by
  have w := hW.1
  have hge := hM.ge
  refine enter 2 (by decide) rfl rfl (fun X => ?_)
  refine j_aload_n dX13_apart_0 rfl rfl ?_
  refine j_iconst (v := nI 0) dX13_apart_1 (by decide) ?_
  refine pI13_51 rfl dX13_apart_2 ?_
  obtain ⟨m1, e1⟩ : ∃ m, m = up mi 1000 0 (nI 0) := ⟨_, rfl⟩
  rw [← e1]
  have hR1 : RM m1 M t := RM_lo hM (fun n hn => by rw [e1, up_off _ _ (by omega)]) hR
  refine j_aload_n dX13_apart_5 rfl rfl ?_
  refine j_iload_n dX13_apart_6 rfl rfl ?_
  refine cV13_355 (d1 := 1) rfl dX13_apart_7 (by decide) (Nat.le_of_ble_eq_true rfl) ?_
  refine m_isPersonG hX hM hY hTn hg hW hR1 (by omega) ?_
  refine j_if_eq (tgt := 26) dX13_apart_10 (by decide) (fun h10 => absurd h10 (by decide)) (fun h10 => ?_)
  refine j_aload_n dX13_apart_13 rfl rfl ?_
  refine j_iload_n dX13_apart_14 rfl rfl ?_
  refine cV13_355 (d1 := 1) rfl dX13_apart_15 (by decide) (Nat.le_of_ble_eq_true rfl) ?_
  refine m_isPersonB hX hM hY hTn hg hW hR1 hb ?_
  refine j_if_eq (tgt := 26) dX13_apart_18 (by decide) (fun h18 => ?_) (fun h18 => absurd (by decide) h18)
  refine j_aload_n dX13_apart_26 rfl rfl ?_
  refine j_iconst (v := nI 1) dX13_apart_27 (by decide) ?_
  refine cV13_57 (d1 := 1) rfl dX13_apart_28 (by decide) (Nat.le_of_ble_eq_true rfl) ?_
  refine m_refused ?_
  refine j_iret rfl dX13_apart_31 ?_
  rw [e1]; exact hp
theorem mx_apartB3 {p : Nat} (hX : XM mr) (hM : MM M) (hY : XT mr M) (hTn : mr 1000 3 = some M) (hg : GB t) (hW : WT t) (hR : RM mi M t) (h1 : p < t 0 5) (hp : post (some (.int (-1))) (rf mi (nI 1)) ml mr dom) : CT G 4 0 0 yX13_apart cX13_apart 5 (some .int) [.ref 1000, .int (nI p), .int (nI p)] mi ml mr dom post := by
  have w := hW.1
  have hge := hM.ge
  refine enter 2 (by decide) rfl rfl (fun X => ?_)
  refine j_aload_n dX13_apart_0 rfl rfl ?_
  refine j_iconst (v := nI 0) dX13_apart_1 (by decide) ?_
  refine pI13_51 rfl dX13_apart_2 ?_
  obtain ⟨m1, e1⟩ : ∃ m, m = up mi 1000 0 (nI 0) := ⟨_, rfl⟩
  rw [← e1]
  have hR1 : RM m1 M t := RM_lo hM (fun n hn => by rw [e1, up_off _ _ (by omega)]) hR
  refine j_aload_n dX13_apart_5 rfl rfl ?_
  refine j_iload_n dX13_apart_6 rfl rfl ?_
  refine cV13_355 (d1 := 1) rfl dX13_apart_7 (by decide) (Nat.le_of_ble_eq_true rfl) ?_
  refine m_isPersonG hX hM hY hTn hg hW hR1 (by omega) ?_
  refine j_if_eq (tgt := 26) dX13_apart_10 (by decide) (fun h10 => absurd h10 (by decide)) (fun h10 => ?_)
  refine j_aload_n dX13_apart_13 rfl rfl ?_
  refine j_iload_n dX13_apart_14 rfl rfl ?_
  refine cV13_355 (d1 := 1) rfl dX13_apart_15 (by decide) (Nat.le_of_ble_eq_true rfl) ?_
  refine m_isPersonG hX hM hY hTn hg hW hR1 (by omega) ?_
  refine j_if_eq (tgt := 26) dX13_apart_18 (by decide) (fun h18 => absurd h18 (by decide)) (fun h18 => ?_)
  refine j_iload_n dX13_apart_21 rfl rfl ?_
  refine j_iload_n dX13_apart_22 rfl rfl ?_
  refine j_icmp_ne (tgt := 32) dX13_apart_23 (by decide) (fun h23 => absurd rfl h23) (fun h23 => ?_)
  refine j_aload_n dX13_apart_26 rfl rfl ?_
  refine j_iconst (v := nI 1) dX13_apart_27 (by decide) ?_
  refine cV13_57 (d1 := 1) rfl dX13_apart_28 (by decide) (Nat.le_of_ble_eq_true rfl) ?_
  refine m_refused ?_
  refine j_iret rfl dX13_apart_31 ?_
  rw [e1]; exact hp
theorem mx_apart {p q : Nat} (hX : XM mr) (hM : MM M) (hY : XT mr M) (hTn : mr 1000 3 = some M) (hg : GB t) (hW : WT t) (hR : RM mi M t) (hLT : LT t) (h1 : p < t 0 5) (h2 : q < t 0 5) (h3 : p ≠ q) (hp : post (some (.int (nI (bst (fun h => !(passF t p q (t 1 h) true)) (t 0 3))))) (fa mi) ml mr dom) : CT G 4 0 0 yX13_apart cX13_apart 5 (some .int) [.ref 1000, .int (nI p), .int (nI q)] mi ml mr dom post := by
  have w := hW.1
  have hge := hM.ge
  have hl1 := hLT.1
  have hl2 := hLT.2.1
  have hdd : isD t (t 0 0) = true := by unfold isD; rw [decide_eq_true (Nat.le_refl _), decide_eq_true (by omega)]; rfl
  refine enter 2 (by decide) rfl rfl (fun X => ?_)
  refine j_aload_n dX13_apart_0 rfl rfl ?_
  refine j_iconst (v := nI 0) dX13_apart_1 (by decide) ?_
  refine pI13_51 rfl dX13_apart_2 ?_
  obtain ⟨m1, e1⟩ : ∃ m, m = up mi 1000 0 (nI 0) := ⟨_, rfl⟩
  rw [← e1]
  have hR1 : RM m1 M t := RM_lo hM (fun n hn => by rw [e1, up_off _ _ (by omega)]) hR
  refine j_aload_n dX13_apart_5 rfl rfl ?_
  refine j_iload_n dX13_apart_6 rfl rfl ?_
  refine cV13_355 (d1 := 1) rfl dX13_apart_7 (by decide) (Nat.le_of_ble_eq_true rfl) ?_
  refine m_isPersonG hX hM hY hTn hg hW hR1 (by omega) ?_
  refine j_if_eq (tgt := 26) dX13_apart_10 (by decide) (fun h10 => absurd h10 (by decide)) (fun h10 => ?_)
  refine j_aload_n dX13_apart_13 rfl rfl ?_
  refine j_iload_n dX13_apart_14 rfl rfl ?_
  refine cV13_355 (d1 := 1) rfl dX13_apart_15 (by decide) (Nat.le_of_ble_eq_true rfl) ?_
  refine m_isPersonG hX hM hY hTn hg hW hR1 (by omega) ?_
  refine j_if_eq (tgt := 26) dX13_apart_18 (by decide) (fun h18 => absurd h18 (by decide)) (fun h18 => ?_)
  refine j_iload_n dX13_apart_21 rfl rfl ?_
  refine j_iload_n dX13_apart_22 rfl rfl ?_
  refine j_icmp_ne (tgt := 32) dX13_apart_23 (by decide) (fun h23 => ?_) (fun h23 => by exfalso; rw [nI_eq (by omega) (by omega)] at h23; omega)
  refine j_iconst (v := nI 0) dX13_apart_32 (by decide) ?_
  refine j_istore_n (lv2 := [_, _, _, _, _]) dX13_apart_33 rfl (by decide) rfl rfl ?_
  refine j_iconst (v := nI 0) dX13_apart_34 (by decide) ?_
  refine j_istore (lv2 := [_, _, _, _, _]) dX13_apart_35 (by decide) rfl rfl ?_
  refine lq (n := t 0 3) (H := fun i => J cX13_apart 5 yX13_apart.cls yX13_apart.name (some .int) 4 G X post 0 0 m1 ml mr dom 37 [some (.ref 1000), some (.int (nI p)), some (.int (nI q)), some (.int (nI (bst (fun h => !(passF t p q (t 1 h) true)) i))), some (.int (nI i))] []) ?_ (fun i hi ih => ?_)
  · skip
    refine j_iload dX13_apart_37 rfl ?_
    refine j_aload_n dX13_apart_39 rfl rfl ?_
    refine gR13_335 rfl dX13_apart_40 hTn ?_
    refine gI13_196 (kM0 hM) dX13_apart_43 ?_
    rw [hR1.1 3 (by decide)]
    refine j_icmp_ge (tgt := 87) dX13_apart_46 (by decide) (fun h46 => ?_) (fun h46 => by exfalso; rw [nI_leI (by have := hg 0 3; omega) (by have := hg 0 3; omega)] at h46; have := hg 0 3; omega)
    refine j_aload_n dX13_apart_87 rfl rfl ?_
    refine j_iload_n dX13_apart_88 rfl rfl ?_
    refine cV13_61 (d1 := 1) rfl dX13_apart_89 (by decide) (Nat.le_of_ble_eq_true rfl) ?_
    refine m_fair ?_
    refine j_iret rfl dX13_apart_92 ?_
    rw [e1]; exact hp
  · skip
    refine j_iload dX13_apart_37 rfl ?_
    refine j_aload_n dX13_apart_39 rfl rfl ?_
    refine gR13_335 rfl dX13_apart_40 hTn ?_
    refine gI13_196 (kM0 hM) dX13_apart_43 ?_
    rw [hR1.1 3 (by decide)]
    refine j_icmp_ge (tgt := 87) dX13_apart_46 (by decide) (fun h46 => by exfalso; rw [nI_leI (by have := hg 0 3; omega) (by omega)] at h46; have := hg 0 3; omega) (fun h46 => ?_)
    refine j_iload_n dX13_apart_49 rfl rfl ?_
    refine j_aload_n dX13_apart_50 rfl rfl ?_
    refine gR13_335 rfl dX13_apart_51 hTn ?_
    refine j_iload_n dX13_apart_54 rfl rfl ?_
    refine j_iload_n dX13_apart_55 rfl rfl ?_
    refine j_iload dX13_apart_56 rfl ?_
    refine j_aload_n dX13_apart_58 rfl rfl ?_
    refine gR13_335 rfl dX13_apart_59 hTn ?_
    refine gI13_232 (kM0 hM) dX13_apart_62 ?_
    rw [hR1.1 0 (by decide)]
    refine cV13_378 (d1 := 3) (kM0 hM) dX13_apart_65 (by decide) (Nat.le_of_ble_eq_true rfl) ?_
    refine m_isTaken hM hY hg hW hR1 (by omega) (by omega) (by omega) (by have := hg 0 0; omega) ?_
    rw [hdd, decide_eq_true (show q ≠ p by omega), Bool.true_and]
    refine j_if_eq (tgt := 75) dX13_apart_68 (by decide) (fun h68 => ?_) (fun h68 => ?_)
    all_goals rw [bN_eq0] at h68
    · refine j_iconst (v := nI 1) dX13_apart_75 (by decide) ?_
      refine j_iload dX13_apart_76 rfl ?_
      refine j_ishl dX13_apart_78 ?_
      refine j_ior dX13_apart_79 ?_
      rw [bit_or _ (by have := bst_256 (fun h => !(passF t p q (t 1 h) true)) (show i ≤ 8 by omega); show bst (fun h => !(passF t p q (t 1 h) true)) i < 256; omega) _ (by show i < 8; omega)]
      refine j_istore_n (lv2 := [_, _, _, _, _]) dX13_apart_80 rfl (by decide) rfl rfl ?_
      refine j_iinc1 (lv2 := [_, _, _, _, _]) dX13_apart_81 rfl (by decide) rfl rfl ?_
      rw [nI_1]
      refine j_goto (tgt := 37) dX13_apart_84 (by decide) ?_
      rw [bst, if_pos (show (fun h => !(passF t p q (t 1 h) true)) i = true by first | assumption | simp_all | (simp only [decide_eq_true_eq, Bool.and_eq_true, Bool.not_eq_true']; omega) | (simp [*]))] at ih
      exact ih
    · refine j_iconst (v := nI 0) dX13_apart_71 (by decide) ?_
      refine j_goto (tgt := 79) dX13_apart_72 (by decide) ?_
      refine j_ior dX13_apart_79 ?_
      rw [or_0]
      refine j_istore_n (lv2 := [_, _, _, _, _]) dX13_apart_80 rfl (by decide) rfl rfl ?_
      refine j_iinc1 (lv2 := [_, _, _, _, _]) dX13_apart_81 rfl (by decide) rfl rfl ?_
      rw [nI_1]
      refine j_goto (tgt := 37) dX13_apart_84 (by decide) ?_
      rw [bst, if_neg (show ¬ (fun h => !(passF t p q (t 1 h) true)) i = true by first | assumption | simp_all | (simp only [decide_eq_true_eq, Bool.and_eq_true, Bool.not_eq_true']; omega) | (simp [*]))] at ih
      exact ih
theorem m_finesBy {s : Nat} (hX : XM mr) (hM : MM M) (hY : XT mr M) (hTn : mr 1000 3 = some M) (hg : GB t) (hW : WT t) (hR : RM mi M t) (hs : s < 2 ^ 28) (hp : post (some (.int (nI (sm (fun k => fiA t k s) (t 0 7))))) mi ml mr dom) : CT G 4 0 0 yX13_finesBy cX13_finesBy 5 (some .int) [.ref 1000, .int (nI s)] mi ml mr dom post := by
  have w := hW.1
  have hge := hM.ge
  refine enter 3 (by decide) rfl rfl (fun X => ?_)
  refine j_iconst (v := nI 0) dX13_finesBy_0 (by decide) ?_
  refine j_istore_n (lv2 := [_, _, _, _, _]) dX13_finesBy_1 rfl (by decide) rfl rfl ?_
  refine j_iconst (v := nI 0) dX13_finesBy_2 (by decide) ?_
  refine j_istore_n (lv2 := [_, _, _, _, _]) dX13_finesBy_3 rfl (by decide) rfl rfl ?_
  refine lq (n := t 0 7) (H := fun i => ∀ z4 : Option Value, J cX13_finesBy 5 yX13_finesBy.cls yX13_finesBy.name (some .int) 4 G X post 0 0 mi ml mr dom 4 [some (.ref 1000), some (.int (nI s)), some (.int (nI (sm (fun k => fiA t k s) i))), some (.int (nI i)), z4] []) (fun z4 => ?_) (fun i hi ih z4 => ?_) none
  · skip
    refine j_iload_n dX13_finesBy_4 rfl rfl ?_
    refine j_aload_n dX13_finesBy_5 rfl rfl ?_
    refine gR13_335 rfl dX13_finesBy_6 hTn ?_
    refine gI13_302 (kM0 hM) dX13_finesBy_9 ?_
    rw [hR.1 7 (by decide)]
    refine j_icmp_ge (tgt := 80) dX13_finesBy_12 (by decide) (fun h12 => ?_) (fun h12 => by exfalso; rw [nI_leI (by have := hg 0 7; omega) (by have := hg 0 7; omega)] at h12; have := hg 0 7; omega)
    refine j_iload_n dX13_finesBy_80 rfl rfl ?_
    refine j_iret rfl dX13_finesBy_81 ?_
    exact hp
  · skip
    have q1 := hW.2.2.2.2.2.1 i hi
    have q2 := hW.2.1 _ q1.2.1
    refine j_iload_n dX13_finesBy_4 rfl rfl ?_
    refine j_aload_n dX13_finesBy_5 rfl rfl ?_
    refine gR13_335 rfl dX13_finesBy_6 hTn ?_
    refine gI13_302 (kM0 hM) dX13_finesBy_9 ?_
    rw [hR.1 7 (by decide)]
    refine j_icmp_ge (tgt := 80) dX13_finesBy_12 (by decide) (fun h12 => by exfalso; rw [nI_leI (by have := hg 0 7; omega) (by omega)] at h12; have := hg 0 7; omega) (fun h12 => ?_)
    refine j_aload_n dX13_finesBy_15 rfl rfl ?_
    refine gR13_335 rfl dX13_finesBy_16 hTn ?_
    refine gR13_249 (kM0 hM) dX13_finesBy_19 (xM1 hY) ?_
    refine j_aload_n dX13_finesBy_22 rfl rfl ?_
    refine gR13_335 rfl dX13_finesBy_23 hTn ?_
    refine gR13_310 (kM0 hM) dX13_finesBy_26 (xM12 hY) ?_
    refine j_iload_n dX13_finesBy_29 rfl rfl ?_
    refine j_iald (kM12 hM) (inT (lM12 hM) (by show i < 8; omega) (by decide)) dX13_finesBy_30 ?_
    rw [nI_clamp (by omega), rM12 hR (by show i < 8; omega)]
    refine j_iald (kM1 hM) (inT (lM1 hM) (by have := hg 12 i; show t 12 i < 6; omega) (by decide)) dX13_finesBy_31 ?_
    rw [nI_clamp (by have := hg 12 i; omega), rM1 hR (by have := hg 12 i; show t 12 i < 6; omega)]
    refine j_istore (lv2 := [_, _, _, _, _]) dX13_finesBy_32 (by decide) rfl rfl ?_
    refine j_iload_n dX13_finesBy_34 rfl rfl ?_
    refine j_aload_n dX13_finesBy_35 rfl rfl ?_
    refine gR13_335 rfl dX13_finesBy_36 hTn ?_
    refine j_aload_n dX13_finesBy_39 rfl rfl ?_
    refine gR13_335 rfl dX13_finesBy_40 hTn ?_
    refine gR13_307 (kM0 hM) dX13_finesBy_43 (xM11 hY) ?_
    refine j_iload_n dX13_finesBy_46 rfl rfl ?_
    refine j_iald (kM11 hM) (inT (lM11 hM) (by show i < 8; omega) (by decide)) dX13_finesBy_47 ?_
    rw [nI_clamp (by omega), rM11 hR (by show i < 8; omega)]
    refine j_iload dX13_finesBy_48 rfl ?_
    refine j_iload_n dX13_finesBy_50 rfl rfl ?_
    refine j_icmp_ge (tgt := 58) dX13_finesBy_51 (by decide) (fun h51 => ?_) (fun h51 => ?_)
    all_goals rw [nI_leI (by omega) (by have := hg 1 (t 12 i); omega)] at h51
    · refine j_iload dX13_finesBy_58 rfl ?_
      refine j_aload_n dX13_finesBy_60 rfl rfl ?_
      refine gR13_335 rfl dX13_finesBy_61 hTn ?_
      refine gR13_313 (kM0 hM) dX13_finesBy_64 (xM13 hY) ?_
      refine j_iload_n dX13_finesBy_67 rfl rfl ?_
      refine j_iald (kM13 hM) (inT (lM13 hM) (by show i < 8; omega) (by decide)) dX13_finesBy_68 ?_
      rw [nI_clamp (by omega), rM13 hR (by show i < 8; omega)]
      refine cV13_388 (d1 := 2) (kM0 hM) dX13_finesBy_69 (by decide) (Nat.le_of_ble_eq_true rfl) ?_
      refine m_fineBy hM hY hg hW hR (by have := hg 11 i; omega) (by have := hg 1 (t 12 i); omega) (by have := hg 13 i; omega) ?_
      rw [show fineO (t 4 (t 11 i)) (t 6 (t 11 i)) (t 1 (t 12 i)) (isD t (t 13 i)) = fiA t i s by unfold fiA; rw [Nat.max_eq_right (by omega)]]
      refine j_iadd dX13_finesBy_72 ?_
      rw [nI_add]
      refine j_istore_n (lv2 := [_, _, _, _, _]) dX13_finesBy_73 rfl (by decide) rfl rfl ?_
      refine j_iinc1 (lv2 := [_, _, _, _, _]) dX13_finesBy_74 rfl (by decide) rfl rfl ?_
      rw [nI_1]
      refine j_goto (tgt := 4) dX13_finesBy_77 (by decide) ?_
      rw [sm] at ih
      exact ih _
    · refine j_iload_n dX13_finesBy_54 rfl rfl ?_
      refine j_goto (tgt := 60) dX13_finesBy_55 (by decide) ?_
      refine j_aload_n dX13_finesBy_60 rfl rfl ?_
      refine gR13_335 rfl dX13_finesBy_61 hTn ?_
      refine gR13_313 (kM0 hM) dX13_finesBy_64 (xM13 hY) ?_
      refine j_iload_n dX13_finesBy_67 rfl rfl ?_
      refine j_iald (kM13 hM) (inT (lM13 hM) (by show i < 8; omega) (by decide)) dX13_finesBy_68 ?_
      rw [nI_clamp (by omega), rM13 hR (by show i < 8; omega)]
      refine cV13_388 (d1 := 2) (kM0 hM) dX13_finesBy_69 (by decide) (Nat.le_of_ble_eq_true rfl) ?_
      refine m_fineBy hM hY hg hW hR (by have := hg 11 i; omega) (by omega) (by have := hg 13 i; omega) ?_
      rw [show fineO (t 4 (t 11 i)) (t 6 (t 11 i)) s (isD t (t 13 i)) = fiA t i s by unfold fiA; rw [Nat.max_eq_left (by omega)]]
      refine j_iadd dX13_finesBy_72 ?_
      rw [nI_add]
      refine j_istore_n (lv2 := [_, _, _, _, _]) dX13_finesBy_73 rfl (by decide) rfl rfl ?_
      refine j_iinc1 (lv2 := [_, _, _, _, _]) dX13_finesBy_74 rfl (by decide) rfl rfl ?_
      rw [nI_1]
      refine j_goto (tgt := 4) dX13_finesBy_77 (by decide) ?_
      rw [sm] at ih
      exact ih _
theorem mx_anotherB {x : Int32} (hX : XM mr) (hM : MM M) (hY : XT mr M) (hTn : mr 1000 3 = some M) (hg : GB t) (hW : WT t) (hR : RM mi M t) (hb : x < nI 10 ∨ nI 59 < x) (hp : post (some (.int (-1))) (rf mi (nI 2)) ml mr dom) : CT G 5 0 0 yX13_another cX13_another 2 (some .int) [.ref 1000, .int x] mi ml mr dom post := by
  have w := hW.1
  have hge := hM.ge
  refine enter 0 (by decide) rfl rfl (fun X => ?_)
  refine j_aload_n dX13_another_0 rfl rfl ?_
  refine j_iconst (v := nI 0) dX13_another_1 (by decide) ?_
  refine pI13_51 rfl dX13_another_2 ?_
  obtain ⟨m1, e1⟩ : ∃ m, m = up mi 1000 0 (nI 0) := ⟨_, rfl⟩
  rw [← e1]
  have hR1 : RM m1 M t := RM_lo hM (fun n hn => by rw [e1, up_off _ _ (by omega)]) hR
  refine j_aload_n dX13_another_5 rfl rfl ?_
  refine gR13_335 rfl dX13_another_6 hTn ?_
  refine j_ifnonnull (tgt := 18) dX13_another_9 (by decide) ?_
  refine j_iload_n dX13_another_18 rfl rfl ?_
  refine j_bipush (v := nI 10) dX13_another_19 (by decide) ?_
  refine j_bipush (v := nI 59) dX13_another_21 (by decide) ?_
  refine cS13_129 (d1 := 1) dX13_another_23 (by decide) (Nat.le_of_ble_eq_true rfl) ?_
  refine m_inB hb ?_
  refine j_if_eq (tgt := 41) dX13_another_26 (by decide) (fun h26 => ?_) (fun h26 => absurd (by decide) h26)
  refine j_aload_n dX13_another_41 rfl rfl ?_
  refine j_iconst (v := nI 2) dX13_another_42 (by decide) ?_
  refine cV13_57 (d1 := 1) rfl dX13_another_43 (by decide) (Nat.le_of_ble_eq_true rfl) ?_
  refine m_refused ?_
  refine j_iret rfl dX13_another_46 ?_
  rw [e1]; exact hp
theorem mx_another {s : Nat} (hX : XM mr) (hM : MM M) (hY : XT mr M) (hTn : mr 1000 3 = some M) (hg : GB t) (hW : WT t) (hR : RM mi M t) (h1 : 10 ≤ s) (h2 : s ≤ 59) (hp : post (some (.int (nI (sm (fun k => fiA t k s) (t 0 7))))) (fa mi) ml mr dom) : CT G 5 0 0 yX13_another cX13_another 2 (some .int) [.ref 1000, .int (nI s)] mi ml mr dom post := by
  have w := hW.1
  have hge := hM.ge
  refine enter 0 (by decide) rfl rfl (fun X => ?_)
  refine j_aload_n dX13_another_0 rfl rfl ?_
  refine j_iconst (v := nI 0) dX13_another_1 (by decide) ?_
  refine pI13_51 rfl dX13_another_2 ?_
  obtain ⟨m1, e1⟩ : ∃ m, m = up mi 1000 0 (nI 0) := ⟨_, rfl⟩
  rw [← e1]
  have hR1 : RM m1 M t := RM_lo hM (fun n hn => by rw [e1, up_off _ _ (by omega)]) hR
  refine j_aload_n dX13_another_5 rfl rfl ?_
  refine gR13_335 rfl dX13_another_6 hTn ?_
  refine j_ifnonnull (tgt := 18) dX13_another_9 (by decide) ?_
  refine j_iload_n dX13_another_18 rfl rfl ?_
  refine j_bipush (v := nI 10) dX13_another_19 (by decide) ?_
  refine j_bipush (v := nI 59) dX13_another_21 (by decide) ?_
  refine cS13_129 (d1 := 1) dX13_another_23 (by decide) (Nat.le_of_ble_eq_true rfl) ?_
  refine m_inG (by show 10 ≤ s; omega) (by show s ≤ 59; omega) (by decide) ?_
  refine j_if_eq (tgt := 41) dX13_another_26 (by decide) (fun h26 => absurd h26 (by decide)) (fun h26 => ?_)
  refine j_aload_n dX13_another_29 rfl rfl ?_
  refine j_aload_n dX13_another_30 rfl rfl ?_
  refine j_iload_n dX13_another_31 rfl rfl ?_
  refine cV13_407 (d1 := 4) rfl dX13_another_32 (by decide) (Nat.le_of_ble_eq_true rfl) ?_
  refine m_finesBy hX hM hY hTn hg hW hR1 (by omega) ?_
  refine cV13_61 (d1 := 1) rfl dX13_another_35 (by decide) (Nat.le_of_ble_eq_true rfl) ?_
  refine m_fair ?_
  refine j_goto (tgt := 46) dX13_another_38 (by decide) ?_
  refine j_iret rfl dX13_another_46 ?_
  rw [e1]; exact hp
theorem mx_wayB1 {x y : Int32} (hX : XM mr) (hM : MM M) (hY : XT mr M) (hTn : mr 1000 3 = some M) (hg : GB t) (hW : WT t) (hR : RM mi M t) (hb : bad x (t 0 3)) (hp : post (some (.int (-1))) (rf mi (nI 1)) ml mr dom) : CT G 3 0 0 yX13_way cX13_way 3 (some .int) [.ref 1000, .int x, .int y] mi ml mr dom post := by
  have w := hW.1
  have hge := hM.ge
  refine enter 0 (by decide) rfl rfl (fun X => ?_)
  refine j_aload_n dX13_way_0 rfl rfl ?_
  refine j_iconst (v := nI 0) dX13_way_1 (by decide) ?_
  refine pI13_51 rfl dX13_way_2 ?_
  obtain ⟨m1, e1⟩ : ∃ m, m = up mi 1000 0 (nI 0) := ⟨_, rfl⟩
  rw [← e1]
  have hR1 : RM m1 M t := RM_lo hM (fun n hn => by rw [e1, up_off _ _ (by omega)]) hR
  refine j_aload_n dX13_way_5 rfl rfl ?_
  refine j_iload_n dX13_way_6 rfl rfl ?_
  refine cV13_352 (d1 := 1) rfl dX13_way_7 (by decide) (Nat.le_of_ble_eq_true rfl) ?_
  refine m_isHouseB hX hM hY hTn hg hW hR1 hb ?_
  refine j_if_eq (tgt := 21) dX13_way_10 (by decide) (fun h10 => ?_) (fun h10 => absurd (by decide) h10)
  refine j_aload_n dX13_way_21 rfl rfl ?_
  refine j_iconst (v := nI 1) dX13_way_22 (by decide) ?_
  refine cV13_57 (d1 := 1) rfl dX13_way_23 (by decide) (Nat.le_of_ble_eq_true rfl) ?_
  refine m_refused ?_
  refine j_iret rfl dX13_way_26 ?_
  rw [e1]; exact hp
theorem mx_wayB2 {h : Nat} {y : Int32} (hX : XM mr) (hM : MM M) (hY : XT mr M) (hTn : mr 1000 3 = some M) (hg : GB t) (hW : WT t) (hR : RM mi M t) (h1 : h < t 0 3) (hb : bad y (t 0 3)) (hp : post (some (.int (-1))) (rf mi (nI 1)) ml mr dom) : CT G 3 0 0 yX13_way cX13_way 3 (some .int) [.ref 1000, .int (nI h), .int y] mi ml mr dom post := by
  have w := hW.1
  have hge := hM.ge
  refine enter 0 (by decide) rfl rfl (fun X => ?_)
  refine j_aload_n dX13_way_0 rfl rfl ?_
  refine j_iconst (v := nI 0) dX13_way_1 (by decide) ?_
  refine pI13_51 rfl dX13_way_2 ?_
  obtain ⟨m1, e1⟩ : ∃ m, m = up mi 1000 0 (nI 0) := ⟨_, rfl⟩
  rw [← e1]
  have hR1 : RM m1 M t := RM_lo hM (fun n hn => by rw [e1, up_off _ _ (by omega)]) hR
  refine j_aload_n dX13_way_5 rfl rfl ?_
  refine j_iload_n dX13_way_6 rfl rfl ?_
  refine cV13_352 (d1 := 1) rfl dX13_way_7 (by decide) (Nat.le_of_ble_eq_true rfl) ?_
  refine m_isHouseG hX hM hY hTn hg hW hR1 (by omega) ?_
  refine j_if_eq (tgt := 21) dX13_way_10 (by decide) (fun h10 => absurd h10 (by decide)) (fun h10 => ?_)
  refine j_aload_n dX13_way_13 rfl rfl ?_
  refine j_iload_n dX13_way_14 rfl rfl ?_
  refine cV13_352 (d1 := 1) rfl dX13_way_15 (by decide) (Nat.le_of_ble_eq_true rfl) ?_
  refine m_isHouseB hX hM hY hTn hg hW hR1 hb ?_
  refine j_if_ne (tgt := 27) dX13_way_18 (by decide) (fun h18 => absurd (by decide) h18) (fun h18 => ?_)
  refine j_aload_n dX13_way_21 rfl rfl ?_
  refine j_iconst (v := nI 1) dX13_way_22 (by decide) ?_
  refine cV13_57 (d1 := 1) rfl dX13_way_23 (by decide) (Nat.le_of_ble_eq_true rfl) ?_
  refine m_refused ?_
  refine j_iret rfl dX13_way_26 ?_
  rw [e1]; exact hp
theorem mx_way {h g : Nat} (hX : XM mr) (hM : MM M) (hY : XT mr M) (hTn : mr 1000 3 = some M) (hg : GB t) (hW : WT t) (hR : RM mi M t) (h1 : h < t 0 3) (h2 : g < t 0 3) (hp : post (some (.int (orN (cf (t 3 (6 * h + g)))))) (fa mi) ml mr dom) : CT G 3 0 0 yX13_way cX13_way 3 (some .int) [.ref 1000, .int (nI h), .int (nI g)] mi ml mr dom post := by
  have w := hW.1
  have hge := hM.ge
  refine enter 0 (by decide) rfl rfl (fun X => ?_)
  refine j_aload_n dX13_way_0 rfl rfl ?_
  refine j_iconst (v := nI 0) dX13_way_1 (by decide) ?_
  refine pI13_51 rfl dX13_way_2 ?_
  obtain ⟨m1, e1⟩ : ∃ m, m = up mi 1000 0 (nI 0) := ⟨_, rfl⟩
  rw [← e1]
  have hR1 : RM m1 M t := RM_lo hM (fun n hn => by rw [e1, up_off _ _ (by omega)]) hR
  refine j_aload_n dX13_way_5 rfl rfl ?_
  refine j_iload_n dX13_way_6 rfl rfl ?_
  refine cV13_352 (d1 := 1) rfl dX13_way_7 (by decide) (Nat.le_of_ble_eq_true rfl) ?_
  refine m_isHouseG hX hM hY hTn hg hW hR1 (by omega) ?_
  refine j_if_eq (tgt := 21) dX13_way_10 (by decide) (fun h10 => absurd h10 (by decide)) (fun h10 => ?_)
  refine j_aload_n dX13_way_13 rfl rfl ?_
  refine j_iload_n dX13_way_14 rfl rfl ?_
  refine cV13_352 (d1 := 1) rfl dX13_way_15 (by decide) (Nat.le_of_ble_eq_true rfl) ?_
  refine m_isHouseG hX hM hY hTn hg hW hR1 (by omega) ?_
  refine j_if_ne (tgt := 27) dX13_way_18 (by decide) (fun h18 => ?_) (fun h18 => absurd h18 (by decide))
  refine j_aload_n dX13_way_27 rfl rfl ?_
  refine j_aload_n dX13_way_28 rfl rfl ?_
  refine gR13_335 rfl dX13_way_29 hTn ?_
  refine j_iload_n dX13_way_32 rfl rfl ?_
  refine j_iload_n dX13_way_33 rfl rfl ?_
  refine cV13_410 (d1 := 1) (kM0 hM) dX13_way_34 (by decide) (Nat.le_of_ble_eq_true rfl) ?_
  refine m_far hM hY hg hW hR1 (by omega) (by omega) ?_
  refine j_ldcw wd1913 dX13_way_37 ?_
  rw [show (99999 : Int32) = nI 99999 from rfl]
  refine j_icmp_lt (tgt := 48) dX13_way_40 (by decide) (fun h40 => ?_) (fun h40 => ?_)
  all_goals rw [nI_ltI (by have := hg 3 (6 * h + g); omega) (by omega)] at h40
  · refine j_aload_n dX13_way_48 rfl rfl ?_
    refine gR13_335 rfl dX13_way_49 hTn ?_
    refine j_iload_n dX13_way_52 rfl rfl ?_
    refine j_iload_n dX13_way_53 rfl rfl ?_
    refine cV13_410 (d1 := 1) (kM0 hM) dX13_way_54 (by decide) (Nat.le_of_ble_eq_true rfl) ?_
    refine m_far hM hY hg hW hR1 (by omega) (by omega) ?_
    refine cV13_61 (d1 := 1) rfl dX13_way_57 (by decide) (Nat.le_of_ble_eq_true rfl) ?_
    refine m_fair ?_
    refine j_iret rfl dX13_way_60 ?_
    rw [e1]
    have hgg := hg 3 (6 * h + g)
    unfold orN cf at hp
    first
      | (rw [if_pos h40, if_pos (by omega)] at hp; exact hp)
      | (rw [if_neg h40, if_neg (by decide)] at hp; exact hp)
  · refine j_bipush (v := -2) dX13_way_43 (by decide) ?_
    refine j_goto (tgt := 57) dX13_way_45 (by decide) ?_
    refine cV13_61 (d1 := 1) rfl dX13_way_57 (by decide) (Nat.le_of_ble_eq_true rfl) ?_
    refine m_fair ?_
    refine j_iret rfl dX13_way_60 ?_
    rw [e1]
    have hgg := hg 3 (6 * h + g)
    unfold orN cf at hp
    first
      | (rw [if_pos h40, if_pos (by omega)] at hp; exact hp)
      | (rw [if_neg h40, if_neg (by decide)] at hp; exact hp)
theorem mx_pieces  (hX : XM mr) (hM : MM M) (hY : XT mr M) (hTn : mr 1000 3 = some M) (hg : GB t) (hW : WT t) (hR : RM mi M t) (hL : 60 ≤ t 0 2)  (hp : post (some (.int (nI (sm (pcO t) (t 0 6))))) (fa mi) ml mr dom) : CT G 4 0 0 yX13_pieces cX13_pieces 3 (some .int) [.ref 1000] mi ml mr dom post := by
  have w := hW.1
  have hge := hM.ge
  refine enter 2 (by decide) rfl rfl (fun X => ?_)
  refine j_aload_n dX13_pieces_0 rfl rfl ?_
  refine j_iconst (v := nI 0) dX13_pieces_1 (by decide) ?_
  refine pI13_51 rfl dX13_pieces_2 ?_
  obtain ⟨m1, e1⟩ : ∃ m, m = up mi 1000 0 (nI 0) := ⟨_, rfl⟩
  rw [← e1]
  have hR1 : RM m1 M t := RM_lo hM (fun n hn => by rw [e1, up_off _ _ (by omega)]) hR
  refine j_aload_n dX13_pieces_5 rfl rfl ?_
  refine gR13_335 rfl dX13_pieces_6 hTn ?_
  refine j_ifnonnull (tgt := 18) dX13_pieces_9 (by decide) ?_
  refine j_iconst (v := nI 0) dX13_pieces_18 (by decide) ?_
  refine j_istore_n (lv2 := [_, _, _]) dX13_pieces_19 rfl (by decide) rfl rfl ?_
  refine j_iconst (v := nI 0) dX13_pieces_20 (by decide) ?_
  refine j_istore_n (lv2 := [_, _, _]) dX13_pieces_21 rfl (by decide) rfl rfl ?_
  refine lq (n := t 0 6) (H := fun i => J cX13_pieces 3 yX13_pieces.cls yX13_pieces.name (some .int) 4 G X post 0 0 m1 ml mr dom 22 [some (.ref 1000), some (.int (nI (sm (pcO t) i))), some (.int (nI i))] []) ?_ (fun i hi ih => ?_)
  · skip
    refine j_iload_n dX13_pieces_22 rfl rfl ?_
    refine j_aload_n dX13_pieces_23 rfl rfl ?_
    refine gR13_335 rfl dX13_pieces_24 hTn ?_
    refine gI13_288 (kM0 hM) dX13_pieces_27 ?_
    rw [hR1.1 6 (by decide)]
    refine j_icmp_ge (tgt := 47) dX13_pieces_30 (by decide) (fun h30 => ?_) (fun h30 => by exfalso; rw [nI_leI (by have := hg 0 6; omega) (by have := hg 0 6; omega)] at h30; have := hg 0 6; omega)
    refine j_aload_n dX13_pieces_47 rfl rfl ?_
    refine j_iload_n dX13_pieces_48 rfl rfl ?_
    refine cV13_61 (d1 := 1) rfl dX13_pieces_49 (by decide) (Nat.le_of_ble_eq_true rfl) ?_
    refine m_fair ?_
    refine j_iret rfl dX13_pieces_52 ?_
    rw [e1]; exact hp
  · skip
    refine j_iload_n dX13_pieces_22 rfl rfl ?_
    refine j_aload_n dX13_pieces_23 rfl rfl ?_
    refine gR13_335 rfl dX13_pieces_24 hTn ?_
    refine gI13_288 (kM0 hM) dX13_pieces_27 ?_
    rw [hR1.1 6 (by decide)]
    refine j_icmp_ge (tgt := 47) dX13_pieces_30 (by decide) (fun h30 => by exfalso; rw [nI_leI (by have := hg 0 6; omega) (by omega)] at h30; have := hg 0 6; omega) (fun h30 => ?_)
    refine j_iload_n dX13_pieces_33 rfl rfl ?_
    refine j_aload_n dX13_pieces_34 rfl rfl ?_
    refine j_iload_n dX13_pieces_35 rfl rfl ?_
    refine cV13_364 (d1 := 2) rfl dX13_pieces_36 (by decide) (Nat.le_of_ble_eq_true rfl) ?_
    refine m_piecesOf hX hM hY hTn hg hW hR1 hL (by omega) ?_
    refine j_iadd dX13_pieces_39 ?_
    rw [nI_add]
    refine j_istore_n (lv2 := [_, _, _]) dX13_pieces_40 rfl (by decide) rfl rfl ?_
    refine j_iinc1 (lv2 := [_, _, _]) dX13_pieces_41 rfl (by decide) rfl rfl ?_
    rw [nI_1]
    refine j_goto (tgt := 22) dX13_pieces_44 (by decide) ?_
    rw [sm] at ih
    exact ih
end M13b
