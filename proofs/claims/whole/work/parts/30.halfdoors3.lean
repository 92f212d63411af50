/-! the class: HalfDoors, questions with loops -/
section C11c
variable {G : GG} {post : PT} {mi : MI} {ml : ML} {mr : MR} {dom : List Nat} {T : Nat} {t : TW} {v : Nat → Nat}
theorem dbl_64 (t : TW) (p s : Nat) (b : Bool) (h : t 0 5 ≤ 6) : dbl t p s b < 64 := Nat.lt_of_lt_of_le (bst_lt _ _) (Nat.pow_le_pow_right (by omega) h)
theorem cx_pairsB2 {h : Nat} {x : Int32} (hX : XR mr) (hT : TT T) (hTn : mr 0 2 = some T) (hW : WT t) (hR : RX mi T t) (h1 : h < t 0 3) (hb : bad x 24) (hp : post (some (.int (-1))) (up mi 0 9 2) ml mr dom) : CT G 2 0 0 yX11_pairs cX11_pairs 5 (some .int) [.ref 0, .int (nI h), .int x] mi ml mr dom post := by
  have w := hW.1
  refine enter 2 (by decide) rfl rfl (fun X => ?_)
  refine j_aload_n dX11_pairs_0 rfl rfl ?_
  refine j_iload_n dX11_pairs_1 rfl rfl ?_
  refine cV11_108 (d1 := 1) rfl dX11_pairs_2 (by decide) (Nat.le_of_ble_eq_true rfl) ?_
  refine c_isHouseG hX hT hTn hW hR h1 ?_
  refine j_if_ne (tgt := 14) dX11_pairs_5 (by decide) (fun _ => ?_) (fun h5 => absurd h5 (by decide))
  refine j_iload_n dX11_pairs_14 rfl rfl ?_
  refine cS11_182 (d1 := 1) dX11_pairs_15 (by decide) (Nat.le_of_ble_eq_true rfl) ?_
  refine c_isHourB hb ?_
  refine j_if_ne (tgt := 27) dX11_pairs_18 (by decide) (fun h18 => absurd (by decide) h18) (fun _ => ?_)
  refine j_aload_n dX11_pairs_21 rfl rfl ?_
  refine j_iconst (v := 2) dX11_pairs_22 (by decide) ?_
  refine cV11_75 (d1 := 1) rfl dX11_pairs_23 (by decide) (Nat.le_of_ble_eq_true rfl) ?_
  refine c_refuse ?_
  refine j_iret rfl dX11_pairs_26 ?_
  exact hp
theorem cx_pairs {h x : Nat} (hX : XR mr) (hT : TT T) (hTn : mr 0 2 = some T) (hW : WT t) (hR : RX mi T t) (h1 : h < t 0 3) (h2 : x < 24) (hp : post (some (.int (nI (sm (fun p => popc (dbl t p (t 1 h) (isD t x))) (t 0 5) / 2)))) (up mi 0 9 0) ml mr dom) : CT G 5 0 0 yX11_pairs cX11_pairs 5 (some .int) [.ref 0, .int (nI h), .int (nI x)] mi ml mr dom post := by
  have w := hW.1
  refine enter 2 (by decide) rfl rfl (fun X => ?_)
  refine j_aload_n dX11_pairs_0 rfl rfl ?_
  refine j_iload_n dX11_pairs_1 rfl rfl ?_
  refine cV11_108 (d1 := 1) rfl dX11_pairs_2 (by decide) (Nat.le_of_ble_eq_true rfl) ?_
  refine c_isHouseG hX hT hTn hW hR h1 ?_
  refine j_if_ne (tgt := 14) dX11_pairs_5 (by decide) (fun _ => ?_) (fun h5 => absurd h5 (by decide))
  refine j_iload_n dX11_pairs_14 rfl rfl ?_
  refine cS11_182 (d1 := 1) dX11_pairs_15 (by decide) (Nat.le_of_ble_eq_true rfl) ?_
  refine c_isHourG h2 ?_
  refine j_if_ne (tgt := 27) dX11_pairs_18 (by decide) (fun _ => ?_) (fun h18 => absurd h18 (by decide))
  refine j_iconst (v := 0) dX11_pairs_27 (by decide) ?_
  refine j_istore_n (lv2 := [_, _, _, _, _]) dX11_pairs_28 rfl (by decide) rfl rfl ?_
  refine j_iconst (v := 0) dX11_pairs_29 (by decide) ?_
  refine j_istore (lv2 := [_, _, _, _, _]) dX11_pairs_30 (by decide) rfl rfl ?_
  skip
  refine lq (n := t 0 5) (H := fun i => J cX11_pairs 5 yX11_pairs.cls yX11_pairs.name (some .int) 5 G X post 0 0 mi ml mr dom 32 [some (.ref 0), some (.int (nI h)), some (.int (nI x)), some (.int (nI (sm (fun p => popc (dbl t p (t 1 h) (isD t x))) i))), some (.int (nI i))] []) ?_ (fun i hi ih => ?_)
  · skip
    refine j_iload dX11_pairs_32 rfl ?_
    refine j_aload_n dX11_pairs_34 rfl rfl ?_
    refine gR11_20 rfl dX11_pairs_35 hTn ?_
    refine gI11_102 (kT0 hT) dX11_pairs_38 ?_
    refine j_icmp_ge (tgt := 82) dX11_pairs_41 (by decide) (fun _ => ?_) (fun h41 => absurd (by rw [hR.people]; exact nI_le (Nat.le_refl _) (by omega)) h41)
    refine j_aload_n dX11_pairs_82 rfl rfl ?_
    refine j_iload_n dX11_pairs_83 rfl rfl ?_
    refine j_iconst (v := 2) dX11_pairs_84 (by decide) ?_
    refine j_idiv dX11_pairs_85 (by decide) ?_
    rw [show (2 : Int32) = nI 2 from rfl, pk_div (by have := sm_le (f := (fun p => popc (dbl t p (t 1 h) (isD t x)))) (b := 6) (t 0 5) (fun i _ => pop_6 _ (dbl_64 t i _ _ (by omega))); omega) (by omega) (by omega)]
    refine cV11_105 (d1 := 1) rfl dX11_pairs_86 (by decide) (Nat.le_of_ble_eq_true rfl) ?_
    refine c_answer ?_
    refine j_iret rfl dX11_pairs_89 ?_
    exact hp
  · skip
    refine j_iload dX11_pairs_32 rfl ?_
    refine j_aload_n dX11_pairs_34 rfl rfl ?_
    refine gR11_20 rfl dX11_pairs_35 hTn ?_
    refine gI11_102 (kT0 hT) dX11_pairs_38 ?_
    refine j_icmp_ge (tgt := 82) dX11_pairs_41 (by decide) (fun h41 => absurd (by rw [hR.people] at h41; exact h41) (nI_ge hi (by omega))) (fun _ => ?_)
    refine j_iload_n dX11_pairs_44 rfl rfl ?_
    refine j_aload_n dX11_pairs_45 rfl rfl ?_
    refine gR11_20 rfl dX11_pairs_46 hTn ?_
    refine j_iload dX11_pairs_49 rfl ?_
    refine j_aload_n dX11_pairs_51 rfl rfl ?_
    refine gR11_20 rfl dX11_pairs_52 hTn ?_
    refine gR11_112 (kT0 hT) dX11_pairs_55 (xT_sills hX hT) ?_
    refine j_iload_n dX11_pairs_58 rfl rfl ?_
    refine j_iald (kT1 hT) (inT (lT1 hT) (show h < 6 by omega) (by omega)) dX11_pairs_59 ?_
    rw [nI_clamp (by omega), hR.sill h1]
    refine j_aload_n dX11_pairs_60 rfl rfl ?_
    refine gR11_20 rfl dX11_pairs_61 hTn ?_
    refine j_iload_n dX11_pairs_64 rfl rfl ?_
    refine cV11_185 (d1 := 1) (kT0 hT) dX11_pairs_65 (by decide) (Nat.le_of_ble_eq_true rfl) ?_
    refine c_isDay hT hW hR (by omega) ?_
    refine cV11_192 (d1 := 4) (kT0 hT) dX11_pairs_68 (by decide) (Nat.le_of_ble_eq_true rfl) ?_
    refine c_doublesOf hX hT hW hR hi (by have := hW.si h1; omega) ?_
    refine cS11_196 (d1 := 1) dX11_pairs_71 (by decide) (Nat.le_of_ble_eq_true rfl) ?_
    refine c_bitCount ?_
    rw [bc32_nI _ (dbl_64 t i _ _ (by omega))]
    refine j_iadd dX11_pairs_74 ?_
    refine j_istore_n (lv2 := [_, _, _, _, _]) dX11_pairs_75 rfl (by decide) rfl rfl ?_
    refine j_iinc1 (lv2 := [_, _, _, _, _]) dX11_pairs_76 rfl (by decide) rfl rfl ?_
    refine j_goto (tgt := 32) dX11_pairs_79 (by decide) ?_
    rw [nI_1, nI_add]
    exact ih
theorem cx_knownAt {p : Nat} (hX : XR mr) (hT : TT T) (hTn : mr 0 2 = some T) (hW : WT t) (hR : RX mi T t) (h1 : p < t 0 5) (hp : post (some (.int (nI (bst (fun h => decide (dbl t p (t 1 h) true = 0)) (t 0 3))))) (up mi 0 9 0) ml mr dom) : CT G 5 0 0 yX11_knownAt cX11_knownAt 4 (some .int) [.ref 0, .int (nI p)] mi ml mr dom post := by
  have w := hW.1
  refine enter 2 (by decide) rfl rfl (fun X => ?_)
  refine j_aload_n dX11_knownAt_0 rfl rfl ?_
  refine j_iload_n dX11_knownAt_1 rfl rfl ?_
  refine cV11_129 (d1 := 1) rfl dX11_knownAt_2 (by decide) (Nat.le_of_ble_eq_true rfl) ?_
  refine c_isPersonG hX hT hTn hW hR h1 ?_
  refine j_if_ne (tgt := 14) dX11_knownAt_5 (by decide) (fun _ => ?_) (fun h5 => absurd h5 (by decide))
  refine j_iconst (v := 0) dX11_knownAt_14 (by decide) ?_
  refine j_istore_n (lv2 := [_, _, _, _]) dX11_knownAt_15 rfl (by decide) rfl rfl ?_
  refine j_iconst (v := 0) dX11_knownAt_16 (by decide) ?_
  refine j_istore_n (lv2 := [_, _, _, _]) dX11_knownAt_17 rfl (by decide) rfl rfl ?_
  skip
  refine lq (n := t 0 3) (H := fun i => J cX11_knownAt 4 yX11_knownAt.cls yX11_knownAt.name (some .int) 5 G X post 0 0 mi ml mr dom 18 [some (.ref 0), some (.int (nI p)), some (.int (nI (bst (fun h => decide (dbl t p (t 1 h) true = 0)) i))), some (.int (nI i))] []) ?_ (fun i hi ih => ?_)
  · skip
    refine j_iload_n dX11_knownAt_18 rfl rfl ?_
    refine j_aload_n dX11_knownAt_19 rfl rfl ?_
    refine gR11_20 rfl dX11_knownAt_20 hTn ?_
    refine gI11_201 (kT0 hT) dX11_knownAt_23 ?_
    refine j_icmp_ge (tgt := 62) dX11_knownAt_26 (by decide) (fun _ => ?_) (fun h26 => absurd (by rw [hR.houses]; exact nI_le (Nat.le_refl _) (by omega)) h26)
    refine j_aload_n dX11_knownAt_62 rfl rfl ?_
    refine j_iload_n dX11_knownAt_63 rfl rfl ?_
    refine cV11_105 (d1 := 1) rfl dX11_knownAt_64 (by decide) (Nat.le_of_ble_eq_true rfl) ?_
    refine c_answer ?_
    refine j_iret rfl dX11_knownAt_67 ?_
    exact hp
  · skip
    refine j_iload_n dX11_knownAt_18 rfl rfl ?_
    refine j_aload_n dX11_knownAt_19 rfl rfl ?_
    refine gR11_20 rfl dX11_knownAt_20 hTn ?_
    refine gI11_201 (kT0 hT) dX11_knownAt_23 ?_
    refine j_icmp_ge (tgt := 62) dX11_knownAt_26 (by decide) (fun h26 => absurd (by rw [hR.houses] at h26; exact h26) (nI_ge hi (by omega))) (fun _ => ?_)
    refine j_aload_n dX11_knownAt_29 rfl rfl ?_
    refine gR11_20 rfl dX11_knownAt_30 hTn ?_
    refine j_iload_n dX11_knownAt_33 rfl rfl ?_
    refine j_aload_n dX11_knownAt_34 rfl rfl ?_
    refine gR11_20 rfl dX11_knownAt_35 hTn ?_
    refine gR11_112 (kT0 hT) dX11_knownAt_38 (xT_sills hX hT) ?_
    refine j_iload_n dX11_knownAt_41 rfl rfl ?_
    refine j_iald (kT1 hT) (inT (lT1 hT) (show i < 6 by omega) (by omega)) dX11_knownAt_42 ?_
    rw [nI_clamp (by omega), hR.sill hi]
    refine j_iconst (v := 1) dX11_knownAt_43 (by decide) ?_
    refine cV11_192 (d1 := 4) (kT0 hT) dX11_knownAt_44 (by decide) (Nat.le_of_ble_eq_true rfl) ?_
    rw [show (1 : Int32) = nI (bN true) from rfl]
    refine c_doublesOf hX hT hW hR h1 (by have := hW.si hi; omega) ?_
    refine j_if_ne (tgt := 56) dX11_knownAt_47 (by decide) (fun h47 => ?_) (fun h47 => ?_)
    · refine j_iinc1 (lv2 := [_, _, _, _]) dX11_knownAt_56 rfl (by decide) rfl rfl ?_
      refine j_goto (tgt := 18) dX11_knownAt_59 (by decide) ?_
      rw [nI_1]
      rw [show (0 : Int32) = nI 0 from rfl, nI_eq (by have := dbl_64 t p (t 1 i) true (by omega); omega) (by omega)] at h47
      first
        | (rw [bst, if_neg (by simpa using h47)] at ih; exact ih)
        | (rw [bit_set _ (bst_256 _ (by omega)) _ (by omega)]; rw [bst, if_pos (by simpa using h47)] at ih; exact ih)
    · refine j_iload_n dX11_knownAt_50 rfl rfl ?_
      refine j_iconst (v := 1) dX11_knownAt_51 (by decide) ?_
      refine j_iload_n dX11_knownAt_52 rfl rfl ?_
      refine j_ishl dX11_knownAt_53 ?_
      refine j_ior dX11_knownAt_54 ?_
      refine j_istore_n (lv2 := [_, _, _, _]) dX11_knownAt_55 rfl (by decide) rfl rfl ?_
      refine j_iinc1 (lv2 := [_, _, _, _]) dX11_knownAt_56 rfl (by decide) rfl rfl ?_
      refine j_goto (tgt := 18) dX11_knownAt_59 (by decide) ?_
      rw [nI_1]
      rw [show (0 : Int32) = nI 0 from rfl, nI_eq (by have := dbl_64 t p (t 1 i) true (by omega); omega) (by omega)] at h47
      first
        | (rw [bst, if_neg (by simpa using h47)] at ih; exact ih)
        | (rw [bit_set _ (bst_256 _ (by omega)) _ (by omega)]; rw [bst, if_pos (by simpa using h47)] at ih; exact ih)
theorem cx_fines {p : Nat} (hX : XR mr) (hT : TT T) (hTn : mr 0 2 = some T) (hW : WT t) (hR : RX mi T t) (h1 : p < t 0 5) (hp : post (some (.int (nI (sm (fun k => if t 11 k = p then fiA t k 10 else 0) (t 0 7))))) (up mi 0 9 0) ml mr dom) : CT G 4 0 0 yX11_fines cX11_fines 4 (some .int) [.ref 0, .int (nI p)] mi ml mr dom post := by
  have w := hW.1
  refine enter 2 (by decide) rfl rfl (fun X => ?_)
  refine j_aload_n dX11_fines_0 rfl rfl ?_
  refine j_iload_n dX11_fines_1 rfl rfl ?_
  refine cV11_129 (d1 := 1) rfl dX11_fines_2 (by decide) (Nat.le_of_ble_eq_true rfl) ?_
  refine c_isPersonG hX hT hTn hW hR h1 ?_
  refine j_if_ne (tgt := 14) dX11_fines_5 (by decide) (fun _ => ?_) (fun h5 => absurd h5 (by decide))
  refine j_iconst (v := 0) dX11_fines_14 (by decide) ?_
  refine j_istore_n (lv2 := [_, _, _, _]) dX11_fines_15 rfl (by decide) rfl rfl ?_
  refine j_iconst (v := 0) dX11_fines_16 (by decide) ?_
  refine j_istore_n (lv2 := [_, _, _, _]) dX11_fines_17 rfl (by decide) rfl rfl ?_
  skip
  refine lq (n := t 0 7) (H := fun i => J cX11_fines 4 yX11_fines.cls yX11_fines.name (some .int) 4 G X post 0 0 mi ml mr dom 18 [some (.ref 0), some (.int (nI p)), some (.int (nI (sm (fun k => if t 11 k = p then fiA t k 10 else 0) i))), some (.int (nI i))] []) ?_ (fun i hi ih => ?_)
  · skip
    refine j_iload_n dX11_fines_18 rfl rfl ?_
    refine j_aload_n dX11_fines_19 rfl rfl ?_
    refine gR11_20 rfl dX11_fines_20 hTn ?_
    refine gI11_231 (kT0 hT) dX11_fines_23 ?_
    refine j_icmp_ge (tgt := 64) dX11_fines_26 (by decide) (fun _ => ?_) (fun h26 => absurd (by rw [hR.visits]; exact nI_le (Nat.le_refl _) (by omega)) h26)
    refine j_aload_n dX11_fines_64 rfl rfl ?_
    refine j_iload_n dX11_fines_65 rfl rfl ?_
    refine cV11_105 (d1 := 1) rfl dX11_fines_66 (by decide) (Nat.le_of_ble_eq_true rfl) ?_
    refine c_answer ?_
    refine j_iret rfl dX11_fines_69 ?_
    exact hp
  · skip
    refine j_iload_n dX11_fines_18 rfl rfl ?_
    refine j_aload_n dX11_fines_19 rfl rfl ?_
    refine gR11_20 rfl dX11_fines_20 hTn ?_
    refine gI11_231 (kT0 hT) dX11_fines_23 ?_
    refine j_icmp_ge (tgt := 64) dX11_fines_26 (by decide) (fun h26 => absurd (by rw [hR.visits] at h26; exact h26) (nI_ge hi (by omega))) (fun _ => ?_)
    refine j_aload_n dX11_fines_29 rfl rfl ?_
    refine gR11_20 rfl dX11_fines_30 hTn ?_
    refine gR11_210 (kT0 hT) dX11_fines_33 (xT_calls hX hT) ?_
    refine j_iload_n dX11_fines_36 rfl rfl ?_
    refine j_aald (C := RX10) (kT7 hT) (by decide) (fun _ => rfl) (inT (lT7 hT) (show i < 8 by omega) (by omega)) (mr_nI (by omega) (xT_v hX hT (show i < 8 by omega))) dX11_fines_37 (by decide) ?_
    refine gI11_214 (kV hT (show i < 8 by omega)) dX11_fines_38 ?_
    refine j_iload_n dX11_fines_41 rfl rfl ?_
    refine j_icmp_ne (tgt := 58) dX11_fines_42 (by decide) (fun h42 => ?_) (fun h42 => ?_)
    · refine j_iinc1 (lv2 := [_, _, _, _]) dX11_fines_58 rfl (by decide) rfl rfl ?_
      refine j_goto (tgt := 18) dX11_fines_61 (by decide) ?_
      rw [nI_1]
      rw [(hR.vi hi).1, nI_eq (by have := (hW.vi hi).1; omega) (by omega)] at h42
      first
        | (rw [sm, if_neg h42, Nat.add_zero] at ih; exact ih)
        | (rw [sm, if_pos h42] at ih; rw [nI_add]; exact ih)
    · refine j_iload_n dX11_fines_45 rfl rfl ?_
      refine j_aload_n dX11_fines_46 rfl rfl ?_
      refine gR11_20 rfl dX11_fines_47 hTn ?_
      refine j_iload_n dX11_fines_50 rfl rfl ?_
      refine j_bipush (v := 10) dX11_fines_51 (by decide) ?_
      refine cV11_228 (d1 := 3) (kT0 hT) dX11_fines_53 (by decide) (Nat.le_of_ble_eq_true rfl) ?_
      refine c_fineAt0 hX hT hW hR hi (s0 := 10) (by decide) rfl rfl ?_
      refine j_iadd dX11_fines_56 ?_
      refine j_istore_n (lv2 := [_, _, _, _]) dX11_fines_57 rfl (by decide) rfl rfl ?_
      refine j_iinc1 (lv2 := [_, _, _, _]) dX11_fines_58 rfl (by decide) rfl rfl ?_
      refine j_goto (tgt := 18) dX11_fines_61 (by decide) ?_
      rw [nI_1]
      rw [(hR.vi hi).1, nI_eq (by have := (hW.vi hi).1; omega) (by omega)] at h42
      first
        | (rw [sm, if_neg h42, Nat.add_zero] at ih; exact ih)
        | (rw [sm, if_pos h42] at ih; rw [nI_add]; exact ih)
theorem and28 : ∀ n, n < 32 → (nI n &&& 28 = 0) = (n / 4 = 0) := by
  have h : ∀ n, n < 32 → decide (nI n &&& 28 = 0) = decide (n / 4 = 0) := by decide +kernel
  intro n hn
  have := h n hn
  simpa using this
theorem cx_bares {p : Nat} (hX : XR mr) (hT : TT T) (hTn : mr 0 2 = some T) (hW : WT t) (hR : RX mi T t) (h1 : p < t 0 5) (hp : post (some (.int (nI (bst (fun k => decide (t 11 k = p) && decide (shA t k / 4 ≠ 0)) (t 0 7))))) (up mi 0 9 0) ml mr dom) : CT G 4 0 0 yX11_bares cX11_bares 4 (some .int) [.ref 0, .int (nI p)] mi ml mr dom post := by
  have w := hW.1
  refine enter 2 (by decide) rfl rfl (fun X => ?_)
  refine j_aload_n dX11_bares_0 rfl rfl ?_
  refine j_iload_n dX11_bares_1 rfl rfl ?_
  refine cV11_129 (d1 := 1) rfl dX11_bares_2 (by decide) (Nat.le_of_ble_eq_true rfl) ?_
  refine c_isPersonG hX hT hTn hW hR h1 ?_
  refine j_if_ne (tgt := 14) dX11_bares_5 (by decide) (fun _ => ?_) (fun h5 => absurd h5 (by decide))
  refine j_iconst (v := 0) dX11_bares_14 (by decide) ?_
  refine j_istore_n (lv2 := [_, _, _, _]) dX11_bares_15 rfl (by decide) rfl rfl ?_
  refine j_iconst (v := 0) dX11_bares_16 (by decide) ?_
  refine j_istore_n (lv2 := [_, _, _, _]) dX11_bares_17 rfl (by decide) rfl rfl ?_
  skip
  refine lq (n := t 0 7) (H := fun i => J cX11_bares 4 yX11_bares.cls yX11_bares.name (some .int) 4 G X post 0 0 mi ml mr dom 18 [some (.ref 0), some (.int (nI p)), some (.int (nI (bst (fun k => decide (t 11 k = p) && decide (shA t k / 4 ≠ 0)) i))), some (.int (nI i))] []) ?_ (fun i hi ih => ?_)
  · skip
    refine j_iload_n dX11_bares_18 rfl rfl ?_
    refine j_aload_n dX11_bares_19 rfl rfl ?_
    refine gR11_20 rfl dX11_bares_20 hTn ?_
    refine gI11_231 (kT0 hT) dX11_bares_23 ?_
    refine j_icmp_ge (tgt := 71) dX11_bares_26 (by decide) (fun _ => ?_) (fun h26 => absurd (by rw [hR.visits]; exact nI_le (Nat.le_refl _) (by omega)) h26)
    refine j_aload_n dX11_bares_71 rfl rfl ?_
    refine j_iload_n dX11_bares_72 rfl rfl ?_
    refine cV11_105 (d1 := 1) rfl dX11_bares_73 (by decide) (Nat.le_of_ble_eq_true rfl) ?_
    refine c_answer ?_
    refine j_iret rfl dX11_bares_76 ?_
    exact hp
  · skip
    refine j_iload_n dX11_bares_18 rfl rfl ?_
    refine j_aload_n dX11_bares_19 rfl rfl ?_
    refine gR11_20 rfl dX11_bares_20 hTn ?_
    refine gI11_231 (kT0 hT) dX11_bares_23 ?_
    refine j_icmp_ge (tgt := 71) dX11_bares_26 (by decide) (fun h26 => absurd (by rw [hR.visits] at h26; exact h26) (nI_ge hi (by omega))) (fun _ => ?_)
    refine j_aload_n dX11_bares_29 rfl rfl ?_
    refine gR11_20 rfl dX11_bares_30 hTn ?_
    refine gR11_210 (kT0 hT) dX11_bares_33 (xT_calls hX hT) ?_
    refine j_iload_n dX11_bares_36 rfl rfl ?_
    refine j_aald (C := RX10) (kT7 hT) (by decide) (fun _ => rfl) (inT (lT7 hT) (show i < 8 by omega) (by omega)) (mr_nI (by omega) (xT_v hX hT (show i < 8 by omega))) dX11_bares_37 (by decide) ?_
    refine gI11_214 (kV hT (show i < 8 by omega)) dX11_bares_38 ?_
    refine j_iload_n dX11_bares_41 rfl rfl ?_
    refine j_icmp_ne (tgt := 65) dX11_bares_42 (by decide) (fun h42 => ?_) (fun h42 => ?_)
    · refine j_iinc1 (lv2 := [_, _, _, _]) dX11_bares_65 rfl (by decide) rfl rfl ?_
      refine j_goto (tgt := 18) dX11_bares_68 (by decide) ?_
      rw [nI_1]
      rw [(hR.vi hi).1, nI_eq (by have := (hW.vi hi).1; omega) (by omega)] at h42
      first
        | (rw [bst, if_neg (by rw [decide_eq_false h42]; simp)] at ih; exact ih)
        | (rw [and28 _ (shw_lt _ _ _ _)] at h56
           have h56' : ¬ ¬ shA t i / 4 = 0 ∨ ¬ shA t i / 4 = 0 := by first | exact Or.inl (fun q => q h56) | exact Or.inr h56
           first
             | (have h9 : shA t i / 4 = 0 := h56
                rw [bst, if_neg (by rw [decide_eq_false (p := shA t i / 4 ≠ 0) (fun q => q h9)]; simp)] at ih; exact ih)
             | (have h9 : ¬ shA t i / 4 = 0 := h56
                rw [bit_set _ (bst_256 _ (by omega)) _ (by omega)]
                rw [bst, if_pos (by rw [decide_eq_true h42, decide_eq_true h9]; rfl)] at ih; exact ih))
    · refine j_aload_n dX11_bares_45 rfl rfl ?_
      refine gR11_20 rfl dX11_bares_46 hTn ?_
      refine j_iload_n dX11_bares_49 rfl rfl ?_
      refine cV11_225 (d1 := 3) (kT0 hT) dX11_bares_50 (by decide) (Nat.le_of_ble_eq_true rfl) ?_
      refine c_shownAt0 hX hT hW hR hi rfl ?_
      refine j_bipush (v := 28) dX11_bares_53 (by decide) ?_
      refine j_iand dX11_bares_55 ?_
      refine j_if_eq (tgt := 65) dX11_bares_56 (by decide) (fun h56 => ?_) (fun h56 => ?_)
      · refine j_iinc1 (lv2 := [_, _, _, _]) dX11_bares_65 rfl (by decide) rfl rfl ?_
        refine j_goto (tgt := 18) dX11_bares_68 (by decide) ?_
        rw [nI_1]
        rw [(hR.vi hi).1, nI_eq (by have := (hW.vi hi).1; omega) (by omega)] at h42
        first
          | (rw [bst, if_neg (by rw [decide_eq_false h42]; simp)] at ih; exact ih)
          | (rw [and28 _ (shw_lt _ _ _ _)] at h56
             have h56' : ¬ ¬ shA t i / 4 = 0 ∨ ¬ shA t i / 4 = 0 := by first | exact Or.inl (fun q => q h56) | exact Or.inr h56
             first
               | (have h9 : shA t i / 4 = 0 := h56
                  rw [bst, if_neg (by rw [decide_eq_false (p := shA t i / 4 ≠ 0) (fun q => q h9)]; simp)] at ih; exact ih)
               | (have h9 : ¬ shA t i / 4 = 0 := h56
                  rw [bit_set _ (bst_256 _ (by omega)) _ (by omega)]
                  rw [bst, if_pos (by rw [decide_eq_true h42, decide_eq_true h9]; rfl)] at ih; exact ih))
      · refine j_iload_n dX11_bares_59 rfl rfl ?_
        refine j_iconst (v := 1) dX11_bares_60 (by decide) ?_
        refine j_iload_n dX11_bares_61 rfl rfl ?_
        refine j_ishl dX11_bares_62 ?_
        refine j_ior dX11_bares_63 ?_
        refine j_istore_n (lv2 := [_, _, _, _]) dX11_bares_64 rfl (by decide) rfl rfl ?_
        refine j_iinc1 (lv2 := [_, _, _, _]) dX11_bares_65 rfl (by decide) rfl rfl ?_
        refine j_goto (tgt := 18) dX11_bares_68 (by decide) ?_
        rw [nI_1]
        rw [(hR.vi hi).1, nI_eq (by have := (hW.vi hi).1; omega) (by omega)] at h42
        first
          | (rw [bst, if_neg (by rw [decide_eq_false h42]; simp)] at ih; exact ih)
          | (rw [and28 _ (shw_lt _ _ _ _)] at h56
             have h56' : ¬ ¬ shA t i / 4 = 0 ∨ ¬ shA t i / 4 = 0 := by first | exact Or.inl (fun q => q h56) | exact Or.inr h56
             first
               | (have h9 : shA t i / 4 = 0 := h56
                  rw [bst, if_neg (by rw [decide_eq_false (p := shA t i / 4 ≠ 0) (fun q => q h9)]; simp)] at ih; exact ih)
               | (have h9 : ¬ shA t i / 4 = 0 := h56
                  rw [bit_set _ (bst_256 _ (by omega)) _ (by omega)]
                  rw [bst, if_pos (by rw [decide_eq_true h42, decide_eq_true h9]; rfl)] at ih; exact ih))
theorem met_lt {k : Nat} (h : t 0 5 ≤ 6) (hv : ∀ j, j < t 0 7 → t 11 j < t 0 5) : ∀ n, n ≤ t 0 7 → fu (fun j c => if t 12 j = t 12 k ∧ t 13 j = t 13 k then c ||| 2 ^ t 11 j else c) n 0 < 64 := by
  intro n
  induction n with
  | zero => intro _; exact Nat.lt_of_lt_of_le Nat.one_pos (by decide)
  | succ n ih =>
    intro hn
    have h1 := ih (by omega)
    have h2 := hv n (by omega)
    show (if _ then _ else _) < 64
    split
    · exact Nat.or_lt_two_pow (n := 6) h1 (Nat.pow_lt_pow_right (by omega) (by omega))
    · exact h1
theorem cx_met {k : Nat} (hX : XR mr) (hT : TT T) (hTn : mr 0 2 = some T) (hW : WT t) (hR : RX mi T t) (h1 : k < t 0 7) (hp : post (some (.int (nI (fu (fun j c => if t 12 j = t 12 k ∧ t 13 j = t 13 k then c ||| 2 ^ t 11 j else c) (t 0 7) 0)))) (up mi 0 9 0) ml mr dom) : CT G 2 0 0 yX11_met cX11_met 6 (some .int) [.ref 0, .int (nI k)] mi ml mr dom post := by
  have w := hW.1
  refine enter 4 (by decide) rfl rfl (fun X => ?_)
  refine j_aload_n dX11_met_0 rfl rfl ?_
  refine j_iload_n dX11_met_1 rfl rfl ?_
  refine cV11_207 (d1 := 1) rfl dX11_met_2 (by decide) (Nat.le_of_ble_eq_true rfl) ?_
  refine c_isVisitG hX hT hTn hW hR h1 ?_
  refine j_if_ne (tgt := 14) dX11_met_5 (by decide) (fun _ => ?_) (fun h5 => absurd h5 (by decide))
  refine j_aload_n dX11_met_14 rfl rfl ?_
  refine gR11_20 rfl dX11_met_15 hTn ?_
  refine gR11_210 (kT0 hT) dX11_met_18 (xT_calls hX hT) ?_
  refine j_iload_n dX11_met_21 rfl rfl ?_
  refine j_aald (C := RX10) (kT7 hT) (by decide) (fun _ => rfl) (inT (lT7 hT) (show k < 8 by omega) (by omega)) (mr_nI (by omega) (xT_v hX hT (show k < 8 by omega))) dX11_met_22 (by decide) ?_
  refine j_astore_n (lv2 := [_, _, _, _, _, _]) dX11_met_23 rfl (by decide) rfl rfl ?_
  refine j_iconst (v := 0) dX11_met_24 (by decide) ?_
  refine j_istore_n (lv2 := [_, _, _, _, _, _]) dX11_met_25 rfl (by decide) rfl rfl ?_
  refine j_iconst (v := 0) dX11_met_26 (by decide) ?_
  refine j_istore (lv2 := [_, _, _, _, _, _]) dX11_met_27 (by decide) rfl rfl ?_
  skip
  refine lq (n := t 0 7) (H := fun i => ∀ z5 : Option Value, J cX11_met 6 yX11_met.cls yX11_met.name (some .int) 2 G X post 0 0 mi ml mr dom 29 [some (.ref 0), some (.int (nI k)), some (.ref (T + 40 + k)), some (.int (nI (fu (fun j c => if t 12 j = t 12 k ∧ t 13 j = t 13 k then c ||| 2 ^ t 11 j else c) i 0))), some (.int (nI i)), z5] []) (fun z5 => ?_) (fun i hi ih z5 => ?_) none
  · skip
    refine j_iload dX11_met_29 rfl ?_
    refine j_aload_n dX11_met_31 rfl rfl ?_
    refine gR11_20 rfl dX11_met_32 hTn ?_
    refine gI11_231 (kT0 hT) dX11_met_35 ?_
    refine j_icmp_ge (tgt := 93) dX11_met_38 (by decide) (fun _ => ?_) (fun h38 => absurd (by rw [hR.visits]; exact nI_le (Nat.le_refl _) (by omega)) h38)
    refine j_aload_n dX11_met_93 rfl rfl ?_
    refine j_iload_n dX11_met_94 rfl rfl ?_
    refine cV11_105 (d1 := 1) rfl dX11_met_95 (by decide) (Nat.le_of_ble_eq_true rfl) ?_
    refine c_answer ?_
    refine j_iret rfl dX11_met_98 ?_
    exact hp
  · skip
    refine j_iload dX11_met_29 rfl ?_
    refine j_aload_n dX11_met_31 rfl rfl ?_
    refine gR11_20 rfl dX11_met_32 hTn ?_
    refine gI11_231 (kT0 hT) dX11_met_35 ?_
    refine j_icmp_ge (tgt := 93) dX11_met_38 (by decide) (fun h38 => absurd (by rw [hR.visits] at h38; exact h38) (nI_ge hi (by omega))) (fun _ => ?_)
    refine j_aload_n dX11_met_41 rfl rfl ?_
    refine gR11_20 rfl dX11_met_42 hTn ?_
    refine gR11_210 (kT0 hT) dX11_met_45 (xT_calls hX hT) ?_
    refine j_iload dX11_met_48 rfl ?_
    refine j_aald (C := RX10) (kT7 hT) (by decide) (fun _ => rfl) (inT (lT7 hT) (show i < 8 by omega) (by omega)) (mr_nI (by omega) (xT_v hX hT (show i < 8 by omega))) dX11_met_50 (by decide) ?_
    refine j_astore (lv2 := [_, _, _, _, _, _]) dX11_met_51 (by decide) rfl rfl ?_
    refine j_aload dX11_met_53 rfl ?_
    refine gI11_219 (kV hT (show i < 8 by omega)) dX11_met_55 ?_
    refine j_aload_n dX11_met_58 rfl rfl ?_
    refine gI11_219 (kV hT (show k < 8 by omega)) dX11_met_59 ?_
    refine j_icmp_ne (tgt := 87) dX11_met_62 (by decide) (fun h62 => ?_) (fun h62 => ?_)
    · refine j_iinc1 (lv2 := [_, _, _, _, _, _]) dX11_met_87 rfl (by decide) rfl rfl ?_
      refine j_goto (tgt := 29) dX11_met_90 (by decide) ?_
      rw [nI_1]
      have q1 := (hW.vi hi).2.1
      have q2 := (hW.vi h1).2.1
      have q3 := (hW.vi hi).2.2
      have q4 := (hW.vi h1).2.2
      have q5 := (hW.vi hi).1
      have q6 := met_lt (k := k) (show t 0 5 ≤ 6 by omega) (fun j hj => (hW.vi hj).1) i (by omega)
      rw [(hR.vi hi).2.1, (hR.vi h1).2.1, nI_eq (by omega) (by omega)] at h62
      first
        | (rw [fu, if_neg (fun q => h62 q.1)] at ih; exact ih _)
        | (rw [(hR.vi hi).2.2, (hR.vi h1).2.2, nI_eq (by omega) (by omega)] at h74
           first
             | (rw [fu, if_neg (fun q => h74 q.2)] at ih; exact ih _)
             | (rw [(hR.vi hi).1, bit_set _ (by omega) _ (by omega)]
                rw [fu, if_pos ⟨h62, h74⟩] at ih; exact ih _))
    · refine j_aload dX11_met_65 rfl ?_
      refine gI11_222 (kV hT (show i < 8 by omega)) dX11_met_67 ?_
      refine j_aload_n dX11_met_70 rfl rfl ?_
      refine gI11_222 (kV hT (show k < 8 by omega)) dX11_met_71 ?_
      refine j_icmp_ne (tgt := 87) dX11_met_74 (by decide) (fun h74 => ?_) (fun h74 => ?_)
      · refine j_iinc1 (lv2 := [_, _, _, _, _, _]) dX11_met_87 rfl (by decide) rfl rfl ?_
        refine j_goto (tgt := 29) dX11_met_90 (by decide) ?_
        rw [nI_1]
        have q1 := (hW.vi hi).2.1
        have q2 := (hW.vi h1).2.1
        have q3 := (hW.vi hi).2.2
        have q4 := (hW.vi h1).2.2
        have q5 := (hW.vi hi).1
        have q6 := met_lt (k := k) (show t 0 5 ≤ 6 by omega) (fun j hj => (hW.vi hj).1) i (by omega)
        rw [(hR.vi hi).2.1, (hR.vi h1).2.1, nI_eq (by omega) (by omega)] at h62
        first
          | (rw [fu, if_neg (fun q => h62 q.1)] at ih; exact ih _)
          | (rw [(hR.vi hi).2.2, (hR.vi h1).2.2, nI_eq (by omega) (by omega)] at h74
             first
               | (rw [fu, if_neg (fun q => h74 q.2)] at ih; exact ih _)
               | (rw [(hR.vi hi).1, bit_set _ (by omega) _ (by omega)]
                  rw [fu, if_pos ⟨h62, h74⟩] at ih; exact ih _))
      · refine j_iload_n dX11_met_77 rfl rfl ?_
        refine j_iconst (v := 1) dX11_met_78 (by decide) ?_
        refine j_aload dX11_met_79 rfl ?_
        refine gI11_214 (kV hT (show i < 8 by omega)) dX11_met_81 ?_
        refine j_ishl dX11_met_84 ?_
        refine j_ior dX11_met_85 ?_
        refine j_istore_n (lv2 := [_, _, _, _, _, _]) dX11_met_86 rfl (by decide) rfl rfl ?_
        refine j_iinc1 (lv2 := [_, _, _, _, _, _]) dX11_met_87 rfl (by decide) rfl rfl ?_
        refine j_goto (tgt := 29) dX11_met_90 (by decide) ?_
        rw [nI_1]
        have q1 := (hW.vi hi).2.1
        have q2 := (hW.vi h1).2.1
        have q3 := (hW.vi hi).2.2
        have q4 := (hW.vi h1).2.2
        have q5 := (hW.vi hi).1
        have q6 := met_lt (k := k) (show t 0 5 ≤ 6 by omega) (fun j hj => (hW.vi hj).1) i (by omega)
        rw [(hR.vi hi).2.1, (hR.vi h1).2.1, nI_eq (by omega) (by omega)] at h62
        first
          | (rw [fu, if_neg (fun q => h62 q.1)] at ih; exact ih _)
          | (rw [(hR.vi hi).2.2, (hR.vi h1).2.2, nI_eq (by omega) (by omega)] at h74
             first
               | (rw [fu, if_neg (fun q => h74 q.2)] at ih; exact ih _)
               | (rw [(hR.vi hi).1, bit_set _ (by omega) _ (by omega)]
                  rw [fu, if_pos ⟨h62, h74⟩] at ih; exact ih _))
theorem cx_apartB1 {x y : Int32} (hX : XR mr) (hT : TT T) (hTn : mr 0 2 = some T) (hW : WT t) (hR : RX mi T t) (hb : bad x (t 0 5)) (hp : post (some (.int (-1))) (up mi 0 9 1) ml mr dom) : CT G 2 0 0 yX11_apart cX11_apart 5 (some .int) [.ref 0, .int x, .int y] mi ml mr dom post := by
  have w := hW.1
  refine enter 2 (by decide) rfl rfl (fun X => ?_)
  refine j_aload_n dX11_apart_0 rfl rfl ?_
  refine j_iload_n dX11_apart_1 rfl rfl ?_
  refine cV11_129 (d1 := 1) rfl dX11_apart_2 (by decide) (Nat.le_of_ble_eq_true rfl) ?_
  refine c_isPersonB hX hT hTn hW hR hb ?_
  refine j_if_eq (tgt := 21) dX11_apart_5 (by decide) (fun _ => ?_) (fun h5 => absurd (by decide) h5)
  refine j_aload_n dX11_apart_21 rfl rfl ?_
  refine j_iconst (v := 1) dX11_apart_22 (by decide) ?_
  refine cV11_75 (d1 := 1) rfl dX11_apart_23 (by decide) (Nat.le_of_ble_eq_true rfl) ?_
  refine c_refuse ?_
  refine j_iret rfl dX11_apart_26 ?_
  exact hp
theorem cx_apartB2 {p : Nat} {y : Int32} (hX : XR mr) (hT : TT T) (hTn : mr 0 2 = some T) (hW : WT t) (hR : RX mi T t) (h1 : p < t 0 5) (hb : bad y (t 0 5)) (hp : post (some (.int (-1))) (up mi 0 9 1) ml mr dom) : CT G 2 0 0 yX11_apart cX11_apart 5 (some .int) [.ref 0, .int (nI p), .int y] mi ml mr dom post := by
  have w := hW.1
  refine enter 2 (by decide) rfl rfl (fun X => ?_)
  refine j_aload_n dX11_apart_0 rfl rfl ?_
  refine j_iload_n dX11_apart_1 rfl rfl ?_
  refine cV11_129 (d1 := 1) rfl dX11_apart_2 (by decide) (Nat.le_of_ble_eq_true rfl) ?_
  refine c_isPersonG hX hT hTn hW hR h1 ?_
  refine j_if_eq (tgt := 21) dX11_apart_5 (by decide) (fun h5 => absurd h5 (by decide)) (fun _ => ?_)
  refine j_aload_n dX11_apart_8 rfl rfl ?_
  refine j_iload_n dX11_apart_9 rfl rfl ?_
  refine cV11_129 (d1 := 1) rfl dX11_apart_10 (by decide) (Nat.le_of_ble_eq_true rfl) ?_
  refine c_isPersonB hX hT hTn hW hR hb ?_
  refine j_if_eq (tgt := 21) dX11_apart_13 (by decide) (fun _ => ?_) (fun h13 => absurd (by decide) h13)
  refine j_aload_n dX11_apart_21 rfl rfl ?_
  refine j_iconst (v := 1) dX11_apart_22 (by decide) ?_
  refine cV11_75 (d1 := 1) rfl dX11_apart_23 (by decide) (Nat.le_of_ble_eq_true rfl) ?_
  refine c_refuse ?_
  refine j_iret rfl dX11_apart_26 ?_
  exact hp
theorem cx_apartB3 {p : Nat} (hX : XR mr) (hT : TT T) (hTn : mr 0 2 = some T) (hW : WT t) (hR : RX mi T t) (h1 : p < t 0 5) (hp : post (some (.int (-1))) (up mi 0 9 1) ml mr dom) : CT G 2 0 0 yX11_apart cX11_apart 5 (some .int) [.ref 0, .int (nI p), .int (nI p)] mi ml mr dom post := by
  have w := hW.1
  refine enter 2 (by decide) rfl rfl (fun X => ?_)
  refine j_aload_n dX11_apart_0 rfl rfl ?_
  refine j_iload_n dX11_apart_1 rfl rfl ?_
  refine cV11_129 (d1 := 1) rfl dX11_apart_2 (by decide) (Nat.le_of_ble_eq_true rfl) ?_
  refine c_isPersonG hX hT hTn hW hR h1 ?_
  refine j_if_eq (tgt := 21) dX11_apart_5 (by decide) (fun h5 => absurd h5 (by decide)) (fun _ => ?_)
  refine j_aload_n dX11_apart_8 rfl rfl ?_
  refine j_iload_n dX11_apart_9 rfl rfl ?_
  refine cV11_129 (d1 := 1) rfl dX11_apart_10 (by decide) (Nat.le_of_ble_eq_true rfl) ?_
  refine c_isPersonG hX hT hTn hW hR h1 ?_
  refine j_if_eq (tgt := 21) dX11_apart_13 (by decide) (fun h13 => absurd h13 (by decide)) (fun _ => ?_)
  refine j_iload_n dX11_apart_16 rfl rfl ?_
  refine j_iload_n dX11_apart_17 rfl rfl ?_
  refine j_icmp_ne (tgt := 27) dX11_apart_18 (by decide) (fun h18 => absurd h18 (fun q => q rfl)) (fun _ => ?_)
  refine j_aload_n dX11_apart_21 rfl rfl ?_
  refine j_iconst (v := 1) dX11_apart_22 (by decide) ?_
  refine cV11_75 (d1 := 1) rfl dX11_apart_23 (by decide) (Nat.le_of_ble_eq_true rfl) ?_
  refine c_refuse ?_
  refine j_iret rfl dX11_apart_26 ?_
  exact hp
theorem cx_apart {p q : Nat} (hX : XR mr) (hT : TT T) (hTn : mr 0 2 = some T) (hW : WT t) (hR : RX mi T t) (h1 : p < t 0 5) (h2 : q < t 0 5) (hne : p ≠ q) (hp : post (some (.int (nI (bst (fun h => !(passF t p q (t 1 h) true)) (t 0 3))))) (up mi 0 9 0) ml mr dom) : CT G 4 0 0 yX11_apart cX11_apart 5 (some .int) [.ref 0, .int (nI p), .int (nI q)] mi ml mr dom post := by
  have w := hW.1
  refine enter 2 (by decide) rfl rfl (fun X => ?_)
  refine j_aload_n dX11_apart_0 rfl rfl ?_
  refine j_iload_n dX11_apart_1 rfl rfl ?_
  refine cV11_129 (d1 := 1) rfl dX11_apart_2 (by decide) (Nat.le_of_ble_eq_true rfl) ?_
  refine c_isPersonG hX hT hTn hW hR h1 ?_
  refine j_if_eq (tgt := 21) dX11_apart_5 (by decide) (fun h5 => absurd h5 (by decide)) (fun _ => ?_)
  refine j_aload_n dX11_apart_8 rfl rfl ?_
  refine j_iload_n dX11_apart_9 rfl rfl ?_
  refine cV11_129 (d1 := 1) rfl dX11_apart_10 (by decide) (Nat.le_of_ble_eq_true rfl) ?_
  refine c_isPersonG hX hT hTn hW hR h2 ?_
  refine j_if_eq (tgt := 21) dX11_apart_13 (by decide) (fun h13 => absurd h13 (by decide)) (fun _ => ?_)
  refine j_iload_n dX11_apart_16 rfl rfl ?_
  refine j_iload_n dX11_apart_17 rfl rfl ?_
  refine j_icmp_ne (tgt := 27) dX11_apart_18 (by decide) (fun _ => ?_) (fun h18 => absurd ((nI_eq (by omega) (by omega)).mp h18) hne)
  refine j_iconst (v := 0) dX11_apart_27 (by decide) ?_
  refine j_istore_n (lv2 := [_, _, _, _, _]) dX11_apart_28 rfl (by decide) rfl rfl ?_
  refine j_iconst (v := 0) dX11_apart_29 (by decide) ?_
  refine j_istore (lv2 := [_, _, _, _, _]) dX11_apart_30 (by decide) rfl rfl ?_
  skip
  refine lq (n := t 0 3) (H := fun i => J cX11_apart 5 yX11_apart.cls yX11_apart.name (some .int) 4 G X post 0 0 mi ml mr dom 32 [some (.ref 0), some (.int (nI p)), some (.int (nI q)), some (.int (nI (bst (fun h => !(passF t p q (t 1 h) true)) i))), some (.int (nI i))] []) ?_ (fun i hi ih => ?_)
  · skip
    refine j_iload dX11_apart_32 rfl ?_
    refine j_aload_n dX11_apart_34 rfl rfl ?_
    refine gR11_20 rfl dX11_apart_35 hTn ?_
    refine gI11_201 (kT0 hT) dX11_apart_38 ?_
    refine j_icmp_ge (tgt := 92) dX11_apart_41 (by decide) (fun _ => ?_) (fun h41 => absurd (by rw [hR.houses]; exact nI_le (Nat.le_refl _) (by omega)) h41)
    refine j_aload_n dX11_apart_92 rfl rfl ?_
    refine j_iload_n dX11_apart_93 rfl rfl ?_
    refine cV11_105 (d1 := 1) rfl dX11_apart_94 (by decide) (Nat.le_of_ble_eq_true rfl) ?_
    refine c_answer ?_
    refine j_iret rfl dX11_apart_97 ?_
    exact hp
  · skip
    refine j_iload dX11_apart_32 rfl ?_
    refine j_aload_n dX11_apart_34 rfl rfl ?_
    refine gR11_20 rfl dX11_apart_35 hTn ?_
    refine gI11_201 (kT0 hT) dX11_apart_38 ?_
    refine j_icmp_ge (tgt := 92) dX11_apart_41 (by decide) (fun h41 => absurd (by rw [hR.houses] at h41; exact h41) (nI_ge hi (by omega))) (fun _ => ?_)
    refine j_aload_n dX11_apart_44 rfl rfl ?_
    refine gR11_20 rfl dX11_apart_45 hTn ?_
    refine gR11_132 (kT0 hT) dX11_apart_48 (xT_persons hX hT) ?_
    refine j_iload_n dX11_apart_51 rfl rfl ?_
    refine j_aald (C := RX3) (kT5 hT) (by decide) (fun _ => rfl) (inT (lT5 hT) (show p < 6 by omega) (by omega)) (mr_nI (by omega) (xT_p hX hT (show p < 6 by omega))) dX11_apart_52 (by decide) ?_
    refine j_aload_n dX11_apart_53 rfl rfl ?_
    refine gR11_20 rfl dX11_apart_54 hTn ?_
    refine gR11_132 (kT0 hT) dX11_apart_57 (xT_persons hX hT) ?_
    refine j_iload_n dX11_apart_60 rfl rfl ?_
    refine j_aald (C := RX3) (kT5 hT) (by decide) (fun _ => rfl) (inT (lT5 hT) (show q < 6 by omega) (by omega)) (mr_nI (by omega) (xT_p hX hT (show q < 6 by omega))) dX11_apart_61 (by decide) ?_
    refine j_aload_n dX11_apart_62 rfl rfl ?_
    refine gR11_20 rfl dX11_apart_63 hTn ?_
    refine gR11_112 (kT0 hT) dX11_apart_66 (xT_sills hX hT) ?_
    refine j_iload dX11_apart_69 rfl ?_
    refine j_iald (kT1 hT) (inT (lT1 hT) (show i < 6 by omega) (by omega)) dX11_apart_71 ?_
    rw [nI_clamp (by omega), hR.sill hi]
    refine j_iconst (v := 1) dX11_apart_72 (by decide) ?_
    refine cV11_237 (d1 := 3) (kP hT (show p < 6 by omega)) dX11_apart_73 (by decide) (Nat.le_of_ble_eq_true rfl) ?_
    rw [show (1 : Int32) = nI (bN true) from rfl]
    refine c_passesFor (pv hX hT hW hR h1) (pv hX hT hW hR h2) (by have := hW.si hi; omega) ?_
    refine j_if_ne (tgt := 86) dX11_apart_76 (by decide) (fun h76 => ?_) (fun h76 => ?_)
    · refine j_iinc1 (lv2 := [_, _, _, _, _]) dX11_apart_86 rfl (by decide) rfl rfl ?_
      refine j_goto (tgt := 32) dX11_apart_89 (by decide) ?_
      rw [nI_1]
      rw [bN_eq0] at h76
      first
        | (have h9 : passF t p q (t 1 i) true = false := h76
           rw [bit_set _ (bst_256 _ (by omega)) _ (by omega)]
           rw [bst, if_pos (by rw [h9]; rfl)] at ih; exact ih)
        | (rw [Bool.not_eq_false] at h76
           have h9 : passF t p q (t 1 i) true = true := h76
           rw [bst, if_neg (by rw [h9]; simp)] at ih; exact ih)
    · refine j_iload_n dX11_apart_79 rfl rfl ?_
      refine j_iconst (v := 1) dX11_apart_80 (by decide) ?_
      refine j_iload dX11_apart_81 rfl ?_
      refine j_ishl dX11_apart_83 ?_
      refine j_ior dX11_apart_84 ?_
      refine j_istore_n (lv2 := [_, _, _, _, _]) dX11_apart_85 rfl (by decide) rfl rfl ?_
      refine j_iinc1 (lv2 := [_, _, _, _, _]) dX11_apart_86 rfl (by decide) rfl rfl ?_
      refine j_goto (tgt := 32) dX11_apart_89 (by decide) ?_
      rw [nI_1]
      rw [bN_eq0] at h76
      first
        | (have h9 : passF t p q (t 1 i) true = false := h76
           rw [bit_set _ (bst_256 _ (by omega)) _ (by omega)]
           rw [bst, if_pos (by rw [h9]; rfl)] at ih; exact ih)
        | (rw [Bool.not_eq_false] at h76
           have h9 : passF t p q (t 1 i) true = true := h76
           rw [bst, if_neg (by rw [h9]; simp)] at ih; exact ih)
theorem cx_pieces  (hX : XR mr) (hT : TT T) (hTn : mr 0 2 = some T) (hW : WT t) (hR : RX mi T t) (h0 : mi T 0 = 1) (hL : 60 ≤ t 0 2) (hp : post (some (.int (nI (sm (pcO t) (t 0 6))))) (up mi 0 9 0) ml mr dom) : CT G 4 0 0 yX11_pieces cX11_pieces 3 (some .int) [.ref 0] mi ml mr dom post := by
  have w := hW.1
  refine enter 2 (by decide) rfl rfl (fun X => ?_)
  refine j_aload_n dX11_pieces_0 rfl rfl ?_
  refine gR11_20 rfl dX11_pieces_1 hTn ?_
  refine gI11_178 (kT0 hT) dX11_pieces_4 ?_
  refine j_if_ne (tgt := 16) dX11_pieces_7 (by decide) (fun _ => ?_) (fun h7 => absurd h7 (by rw [h0]; decide))
  refine j_iconst (v := 0) dX11_pieces_16 (by decide) ?_
  refine j_istore_n (lv2 := [_, _, _]) dX11_pieces_17 rfl (by decide) rfl rfl ?_
  refine j_iconst (v := 0) dX11_pieces_18 (by decide) ?_
  refine j_istore_n (lv2 := [_, _, _]) dX11_pieces_19 rfl (by decide) rfl rfl ?_
  skip
  refine lq (n := t 0 6) (H := fun i => J cX11_pieces 3 yX11_pieces.cls yX11_pieces.name (some .int) 4 G X post 0 0 mi ml mr dom 20 [some (.ref 0), some (.int (nI (sm (pcO t) i))), some (.int (nI i))] []) ?_ (fun i hi ih => ?_)
  · skip
    refine j_iload_n dX11_pieces_20 rfl rfl ?_
    refine j_aload_n dX11_pieces_21 rfl rfl ?_
    refine gR11_20 rfl dX11_pieces_22 hTn ?_
    refine gI11_123 (kT0 hT) dX11_pieces_25 ?_
    refine j_icmp_ge (tgt := 48) dX11_pieces_28 (by decide) (fun _ => ?_) (fun h28 => absurd (by rw [hR.goods]; exact nI_le (Nat.le_refl _) (by omega)) h28)
    refine j_aload_n dX11_pieces_48 rfl rfl ?_
    refine j_iload_n dX11_pieces_49 rfl rfl ?_
    refine cV11_105 (d1 := 1) rfl dX11_pieces_50 (by decide) (Nat.le_of_ble_eq_true rfl) ?_
    refine c_answer ?_
    refine j_iret rfl dX11_pieces_53 ?_
    exact hp
  · skip
    refine j_iload_n dX11_pieces_20 rfl rfl ?_
    refine j_aload_n dX11_pieces_21 rfl rfl ?_
    refine gR11_20 rfl dX11_pieces_22 hTn ?_
    refine gI11_123 (kT0 hT) dX11_pieces_25 ?_
    refine j_icmp_ge (tgt := 48) dX11_pieces_28 (by decide) (fun h28 => absurd (by rw [hR.goods] at h28; exact h28) (nI_ge hi (by omega))) (fun _ => ?_)
    refine j_iload_n dX11_pieces_31 rfl rfl ?_
    refine j_aload_n dX11_pieces_32 rfl rfl ?_
    refine gR11_20 rfl dX11_pieces_33 hTn ?_
    refine j_iload_n dX11_pieces_36 rfl rfl ?_
    refine cV11_175 (d1 := 3) (kT0 hT) dX11_pieces_37 (by decide) (Nat.le_of_ble_eq_true rfl) ?_
    refine c_piecesOf hX hT hW hR hL hi ?_
    refine j_iadd dX11_pieces_40 ?_
    refine j_istore_n (lv2 := [_, _, _]) dX11_pieces_41 rfl (by decide) rfl rfl ?_
    refine j_iinc1 (lv2 := [_, _, _]) dX11_pieces_42 rfl (by decide) rfl rfl ?_
    refine j_goto (tgt := 20) dX11_pieces_45 (by decide) ?_
    rw [nI_1, nI_add]
    exact ih
theorem smf_b (hW : WT t) (s : Nat) : sm (fun k => fiA t k s) (t 0 7) < 2 ^ 31 := by
  have h := sm_le (f := fun k => fiA t k s) (b := 49) (t 0 7) (fun k hk => by
    have h1 := (hW.vi hk).1
    have h2 := (hW.pe h1).2.2.2.1
    have h3 := fineO_le (t 4 (t 11 k)) (t 6 (t 11 k)) (max s (t 1 (t 12 k))) (isD t (t 13 k))
    show fineO _ _ _ _ ≤ 49
    omega)
  have := hW.1
  omega
theorem cx_leastSill  (hX : XR mr) (hT : TT T) (hTn : mr 0 2 = some T) (hW : WT t) (hR : RX mi T t) (h0 : mi T 0 = 1) (hp : (∀ s, 10 ≤ s → s ≤ 59 → sm (fun k => fiA t k s) (t 0 7) = 0 → (∀ j, 10 ≤ j → j < s → ¬ sm (fun k => fiA t k j) (t 0 7) = 0) → post (some (.int (nI s))) (up mi 0 9 0) ml mr dom) ∧ ((∀ j, 10 ≤ j → j ≤ 59 → ¬ sm (fun k => fiA t k j) (t 0 7) = 0) → post (some (.int (-2))) (up mi 0 9 0) ml mr dom)) : CT G 5 0 0 yX11_leastSill cX11_leastSill 2 (some .int) [.ref 0] mi ml mr dom post := by
  have w := hW.1
  refine enter 1 (by decide) rfl rfl (fun X => ?_)
  refine j_aload_n dX11_leastSill_0 rfl rfl ?_
  refine gR11_20 rfl dX11_leastSill_1 hTn ?_
  refine gI11_178 (kT0 hT) dX11_leastSill_4 ?_
  refine j_if_ne (tgt := 16) dX11_leastSill_7 (by decide) (fun _ => ?_) (fun h7 => absurd h7 (by rw [h0]; decide))
  refine j_bipush (v := 10) dX11_leastSill_16 (by decide) ?_
  refine j_istore_n (lv2 := [_, _]) dX11_leastSill_18 rfl (by decide) rfl rfl ?_
  skip
  refine lp (n := 50) (Q := fun i => ∀ j, 10 ≤ j → j < i + 10 → ¬ sm (fun k => fiA t k j) (t 0 7) = 0) (H := fun i => J cX11_leastSill 2 yX11_leastSill.cls yX11_leastSill.name (some .int) 5 G X post 0 0 mi ml mr dom 19 [some (.ref 0), some (.int (nI (i + 10)))] []) (fun hq => ?_) (fun i hi hq ih => ?_) (fun j a b => absurd a (by omega))
  · skip
    refine j_iload_n dX11_leastSill_19 rfl rfl ?_
    refine j_bipush (v := 59) dX11_leastSill_20 (by decide) ?_
    refine j_icmp_gt (tgt := 48) dX11_leastSill_22 (by decide) (fun _ => ?_) (fun h22 => absurd (nI_lt (a := 59) (b := 60) (by decide) (by decide)) h22)
    refine j_aload_n dX11_leastSill_48 rfl rfl ?_
    refine j_bipush (v := -2) dX11_leastSill_49 (by decide) ?_
    refine cV11_105 (d1 := 1) rfl dX11_leastSill_51 (by decide) (Nat.le_of_ble_eq_true rfl) ?_
    refine c_answer ?_
    refine j_iret rfl dX11_leastSill_54 ?_
    exact hp.2 (fun j a b => hq j a (by omega))
  · skip
    refine j_iload_n dX11_leastSill_19 rfl rfl ?_
    refine j_bipush (v := 59) dX11_leastSill_20 (by decide) ?_
    refine j_icmp_gt (tgt := 48) dX11_leastSill_22 (by decide) (fun h22 => absurd h22 (nI_nlt (a := 59) (b := i + 10) (by omega) (by decide))) (fun _ => ?_)
    refine j_aload_n dX11_leastSill_25 rfl rfl ?_
    refine gR11_20 rfl dX11_leastSill_26 hTn ?_
    refine j_iload_n dX11_leastSill_29 rfl rfl ?_
    refine cV11_244 (d1 := 4) (kT0 hT) dX11_leastSill_30 (by decide) (Nat.le_of_ble_eq_true rfl) ?_
    refine c_finesBy hX hT hW hR (by omega) ?_
    refine j_if_ne (tgt := 42) dX11_leastSill_33 (by decide) (fun h33 => ?_) (fun h33 => ?_)
    · refine j_iinc1 (lv2 := [_, _]) dX11_leastSill_42 rfl (by decide) rfl rfl ?_
      refine j_goto (tgt := 19) dX11_leastSill_45 (by decide) ?_
      rw [nI_1]
      rw [show i + 10 + 1 = i + 1 + 10 by omega]
      refine ih (fun j a b => ?_)
      rw [show (0 : Int32) = nI 0 from rfl, nI_eq (smf_b hW (i + 10)) (by omega)] at h33
      by_cases hj : j = i + 10
      · subst hj; exact h33
      · exact hq j a (by omega)
    · refine j_aload_n dX11_leastSill_36 rfl rfl ?_
      refine j_iload_n dX11_leastSill_37 rfl rfl ?_
      refine cV11_105 (d1 := 1) rfl dX11_leastSill_38 (by decide) (Nat.le_of_ble_eq_true rfl) ?_
      refine c_answer ?_
      refine j_iret rfl dX11_leastSill_41 ?_
      rw [show (0 : Int32) = nI 0 from rfl, nI_eq (smf_b hW (i + 10)) (by omega)] at h33
      exact hp.1 (i + 10) (by omega) (by omega) h33 hq
end C11c
