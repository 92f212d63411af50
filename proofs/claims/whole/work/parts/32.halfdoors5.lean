/-! the class: HalfDoors, acts, and what is told of the object -/
/-- the memory behind an act kept -/
def kpm (mi : MI) (w k : Nat) : MI := up (cpm (up mi 8 4 (nI ((w + 1) % 16))) 9 10 0 (13 * ((w + 1) % 16)) 13) 8 0 (nI (min (k + 1) 16))
theorem kpm_off (mi : MI) {w k n : Nat} (h8 : n ≠ 8) (h10 : n ≠ 10) : kpm mi w k n = mi n := by
  unfold kpm; rw [up_off _ _ h8, cpm_off _ h10, up_off _ _ h8]
section C11e
variable {G : GG} {post : PT} {mi : MI} {ml : ML} {mr : MR} {dom : List Nat} {T : Nat} {t : TW} {v : Nat → Nat}
theorem cx_goB1 {p h : Int32} (hX : XR mr) (hT : TT T) (hTn : mr 0 2 = some T) (hW : WT t) (hR : RX mi T t) (hb : bad p (t 0 5)) (hp : post (some (.int (-1))) (up mi 0 9 1) ml mr dom) : CT G 2 0 0 yX11_go cX11_go 5 (some .int) [.ref 0, .int p, .int h] mi ml mr dom post := by
  have w := hW.1
  refine enter 2 (by decide) rfl rfl (fun X => ?_)
  refine j_aload_n dX11_go_0 rfl rfl ?_
  refine j_iload_n dX11_go_1 rfl rfl ?_
  refine cV11_129 (d1 := 1) rfl dX11_go_2 (by decide) (Nat.le_of_ble_eq_true rfl) ?_
  refine c_isPersonB hX hT hTn hW hR hb ?_
  refine j_if_eq (tgt := 16) dX11_go_5 (by decide) (fun _ => ?_) (fun h5 => absurd (by decide) h5)
  refine j_aload_n dX11_go_16 rfl rfl ?_
  refine j_iconst (v := 1) dX11_go_17 (by decide) ?_
  refine cV11_75 (d1 := 1) rfl dX11_go_18 (by decide) (Nat.le_of_ble_eq_true rfl) ?_
  refine c_refuse ?_
  refine j_iret rfl dX11_go_21 ?_
  exact hp
theorem cx_goB2 {p : Nat} {h : Int32} (hX : XR mr) (hT : TT T) (hTn : mr 0 2 = some T) (hW : WT t) (hR : RX mi T t) (h1 : p < t 0 5) (hb : bad h (t 0 3)) (hp : post (some (.int (-1))) (up mi 0 9 1) ml mr dom) : CT G 2 0 0 yX11_go cX11_go 5 (some .int) [.ref 0, .int (nI p), .int h] mi ml mr dom post := by
  have w := hW.1
  refine enter 2 (by decide) rfl rfl (fun X => ?_)
  refine j_aload_n dX11_go_0 rfl rfl ?_
  refine j_iload_n dX11_go_1 rfl rfl ?_
  refine cV11_129 (d1 := 1) rfl dX11_go_2 (by decide) (Nat.le_of_ble_eq_true rfl) ?_
  refine c_isPersonG hX hT hTn hW hR h1 ?_
  refine j_if_eq (tgt := 16) dX11_go_5 (by decide) (fun h5 => absurd h5 (by decide)) (fun _ => ?_)
  refine j_aload_n dX11_go_8 rfl rfl ?_
  refine j_iload_n dX11_go_9 rfl rfl ?_
  refine cV11_108 (d1 := 1) rfl dX11_go_10 (by decide) (Nat.le_of_ble_eq_true rfl) ?_
  refine c_isHouseB hX hT hTn hW hR hb ?_
  refine j_if_ne (tgt := 22) dX11_go_13 (by decide) (fun h13 => absurd (by decide) h13) (fun _ => ?_)
  refine j_aload_n dX11_go_16 rfl rfl ?_
  refine j_iconst (v := 1) dX11_go_17 (by decide) ?_
  refine cV11_75 (d1 := 1) rfl dX11_go_18 (by decide) (Nat.le_of_ble_eq_true rfl) ?_
  refine c_refuse ?_
  refine j_iret rfl dX11_go_21 ?_
  exact hp
theorem cx_goN {p h : Nat} (hX : XR mr) (hT : TT T) (hTn : mr 0 2 = some T) (hW : WT t) (hR : RX mi T t) (h1 : p < t 0 5) (h2 : h < t 0 3) (hv : mi 9 p = nI (v p)) (hv3 : v p < t 0 3) (hno : v p = h ∨ 1000000 ≤ cf (t 3 (6 * v p + h))) (hp : post (some (.int (-1))) (up mi 0 9 5) ml mr dom) : CT G 2 0 0 yX11_go cX11_go 5 (some .int) [.ref 0, .int (nI p), .int (nI h)] mi ml mr dom post := by
  have w := hW.1
  have hc := cf_le (t 3 (6 * v p + h))
  refine enter 2 (by decide) rfl rfl (fun X => ?_)
  refine j_aload_n dX11_go_0 rfl rfl ?_
  refine j_iload_n dX11_go_1 rfl rfl ?_
  refine cV11_129 (d1 := 1) rfl dX11_go_2 (by decide) (Nat.le_of_ble_eq_true rfl) ?_
  refine c_isPersonG hX hT hTn hW hR h1 ?_
  refine j_if_eq (tgt := 16) dX11_go_5 (by decide) (fun h5 => absurd h5 (by decide)) (fun _ => ?_)
  refine j_aload_n dX11_go_8 rfl rfl ?_
  refine j_iload_n dX11_go_9 rfl rfl ?_
  refine cV11_108 (d1 := 1) rfl dX11_go_10 (by decide) (Nat.le_of_ble_eq_true rfl) ?_
  refine c_isHouseG hX hT hTn hW hR h2 ?_
  refine j_if_ne (tgt := 22) dX11_go_13 (by decide) (fun _ => ?_) (fun h13 => absurd h13 (by decide))
  refine j_aload_n dX11_go_22 rfl rfl ?_
  refine gR11_37 rfl dX11_go_23 (x_present hX) ?_
  refine j_iload_n dX11_go_26 rfl rfl ?_
  refine cV11_147 (d1 := 1) rfl dX11_go_27 (by decide) (Nat.le_of_ble_eq_true rfl) ?_
  refine tX4_placeOf hX (vp_in_nI (show p < 13 by omega) (by omega)) ?_
  rw [nI_clamp (by omega), hv]
  refine j_istore_n (lv2 := [_, _, _, _, _]) dX11_go_30 rfl (by decide) rfl rfl ?_
  refine j_aload_n dX11_go_31 rfl rfl ?_
  refine gR11_20 rfl dX11_go_32 hTn ?_
  refine gR11_89 (kT0 hT) dX11_go_35 (xT_lanes hX hT) ?_
  refine j_iload_n dX11_go_38 rfl rfl ?_
  refine j_iload_n dX11_go_39 rfl rfl ?_
  refine cV11_247 (d1 := 1) (kT2 hT) dX11_go_40 (by decide) (Nat.le_of_ble_eq_true rfl) ?_
  refine c_between hX hT (by omega) (by omega) (hR.few (by omega) (show 6 * v p + h < 36 by omega)) ?_
  refine j_istore (lv2 := [_, _, _, _, _]) dX11_go_43 (by decide) rfl rfl ?_
  refine j_iload_n dX11_go_45 rfl rfl ?_
  refine j_iload_n dX11_go_46 rfl rfl ?_
  refine j_icmp_eq (tgt := 57) dX11_go_47 (by decide) (fun h47 => ?_) (fun h47 => ?_)
  · refine j_aload_n dX11_go_57 rfl rfl ?_
    refine j_iconst (v := 5) dX11_go_58 (by decide) ?_
    refine cV11_75 (d1 := 1) rfl dX11_go_59 (by decide) (Nat.le_of_ble_eq_true rfl) ?_
    refine c_refuse ?_
    refine j_iret rfl dX11_go_62 ?_
    exact hp
  · refine j_iload dX11_go_50 rfl ?_
    refine j_ldc wd994 dX11_go_52 ?_
    refine j_icmp_lt (tgt := 63) dX11_go_54 (by decide) (fun h54 => ?_) (fun h54 => ?_)
    · rw [nI_eq (by omega) (by omega)] at h47
      rw [show (1000000 : Int32) = nI 1000000 from rfl, nI_ltI (by omega) (by omega)] at h54
      omega
    · refine j_aload_n dX11_go_57 rfl rfl ?_
      refine j_iconst (v := 5) dX11_go_58 (by decide) ?_
      refine cV11_75 (d1 := 1) rfl dX11_go_59 (by decide) (Nat.le_of_ble_eq_true rfl) ?_
      refine c_refuse ?_
      refine j_iret rfl dX11_go_62 ?_
      exact hp
theorem cx_go {p h : Nat} (hX : XR mr) (hT : TT T) (hTn : mr 0 2 = some T) (hW : WT t) (hR : RX mi T t) (h1 : p < t 0 5) (h2 : h < t 0 3) (hv : mi 9 p = nI (v p)) (hv3 : v p < t 0 3) (hne : v p ≠ h) (hlt : cf (t 3 (6 * v p + h)) < 1000000) {w0 k0 : Nat} (hw : mi 8 4 = nI w0) (hw16 : w0 < 16) (hk : mi 8 0 = nI k0) (hk16 : k0 ≤ 16) (hp : post (some (.int (nI (cf (t 3 (6 * v p + h)))))) (up (up (kpm mi w0 k0) 9 p (nI h)) 0 9 0) ml mr dom) : CT G 3 0 0 yX11_go cX11_go 5 (some .int) [.ref 0, .int (nI p), .int (nI h)] mi ml mr dom post := by
  have w := hW.1
  have hc := cf_le (t 3 (6 * v p + h))
  refine enter 2 (by decide) rfl rfl (fun X => ?_)
  refine j_aload_n dX11_go_0 rfl rfl ?_
  refine j_iload_n dX11_go_1 rfl rfl ?_
  refine cV11_129 (d1 := 1) rfl dX11_go_2 (by decide) (Nat.le_of_ble_eq_true rfl) ?_
  refine c_isPersonG hX hT hTn hW hR h1 ?_
  refine j_if_eq (tgt := 16) dX11_go_5 (by decide) (fun h5 => absurd h5 (by decide)) (fun _ => ?_)
  refine j_aload_n dX11_go_8 rfl rfl ?_
  refine j_iload_n dX11_go_9 rfl rfl ?_
  refine cV11_108 (d1 := 1) rfl dX11_go_10 (by decide) (Nat.le_of_ble_eq_true rfl) ?_
  refine c_isHouseG hX hT hTn hW hR h2 ?_
  refine j_if_ne (tgt := 22) dX11_go_13 (by decide) (fun _ => ?_) (fun h13 => absurd h13 (by decide))
  refine j_aload_n dX11_go_22 rfl rfl ?_
  refine gR11_37 rfl dX11_go_23 (x_present hX) ?_
  refine j_iload_n dX11_go_26 rfl rfl ?_
  refine cV11_147 (d1 := 1) rfl dX11_go_27 (by decide) (Nat.le_of_ble_eq_true rfl) ?_
  refine tX4_placeOf hX (vp_in_nI (show p < 13 by omega) (by omega)) ?_
  rw [nI_clamp (by omega), hv]
  refine j_istore_n (lv2 := [_, _, _, _, _]) dX11_go_30 rfl (by decide) rfl rfl ?_
  refine j_aload_n dX11_go_31 rfl rfl ?_
  refine gR11_20 rfl dX11_go_32 hTn ?_
  refine gR11_89 (kT0 hT) dX11_go_35 (xT_lanes hX hT) ?_
  refine j_iload_n dX11_go_38 rfl rfl ?_
  refine j_iload_n dX11_go_39 rfl rfl ?_
  refine cV11_247 (d1 := 1) (kT2 hT) dX11_go_40 (by decide) (Nat.le_of_ble_eq_true rfl) ?_
  refine c_between hX hT (by omega) (by omega) (hR.few (by omega) (show 6 * v p + h < 36 by omega)) ?_
  refine j_istore (lv2 := [_, _, _, _, _]) dX11_go_43 (by decide) rfl rfl ?_
  refine j_iload_n dX11_go_45 rfl rfl ?_
  refine j_iload_n dX11_go_46 rfl rfl ?_
  refine j_icmp_eq (tgt := 57) dX11_go_47 (by decide) (fun h47 => absurd h47 (fun q => hne ((nI_eq (by omega) (by omega)).mp q))) (fun _ => ?_)
  refine j_iload dX11_go_50 rfl ?_
  refine j_ldc wd994 dX11_go_52 ?_
  refine j_icmp_lt (tgt := 63) dX11_go_54 (by decide) (fun _ => ?_) (fun h54 => absurd (nI_lt (b := 1000000) hlt (by decide)) h54)
  refine j_aload_n dX11_go_63 rfl rfl ?_
  refine gR11_37 rfl dX11_go_64 (x_present hX) ?_
  refine cV11_311 (d1 := 2) rfl dX11_go_67 (by decide) (Nat.le_of_ble_eq_true rfl) ?_
  refine c_keep hX hw hw16 hk hk16 ?_
  refine j_aload_n dX11_go_70 rfl rfl ?_
  refine gR11_37 rfl dX11_go_71 (x_present hX) ?_
  refine j_iload_n dX11_go_74 rfl rfl ?_
  refine j_iload_n dX11_go_75 rfl rfl ?_
  refine cV11_314 (d1 := 1) rfl dX11_go_76 (by decide) (Nat.le_of_ble_eq_true rfl) ?_
  refine tX4_movePerson hX (vp_in_nI (show p < 13 by omega) (by omega)) ?_
  rw [nI_clamp (by omega)]
  refine j_aload_n dX11_go_79 rfl rfl ?_
  refine j_iload dX11_go_80 rfl ?_
  refine cV11_105 (d1 := 1) rfl dX11_go_82 (by decide) (Nat.le_of_ble_eq_true rfl) ?_
  refine c_answer ?_
  refine j_iret rfl dX11_go_85 ?_
  exact hp
theorem cx_handB1 {g h : Int32} (hX : XR mr) (hT : TT T) (hTn : mr 0 2 = some T) (hW : WT t) (hR : RX mi T t) (hb : bad g (t 0 6)) (hp : post (some (.int 0)) (up mi 0 9 1) ml mr dom) : CT G 2 0 0 yX11_hand cX11_hand 5 (some .boolean) [.ref 0, .int g, .int h] mi ml mr dom post := by
  have w := hW.1
  refine enter 2 (by decide) rfl rfl (fun X => ?_)
  refine j_aload_n dX11_hand_0 rfl rfl ?_
  refine j_iload_n dX11_hand_1 rfl rfl ?_
  refine cV11_157 (d1 := 1) rfl dX11_hand_2 (by decide) (Nat.le_of_ble_eq_true rfl) ?_
  refine c_isGoodB hX hT hTn hW hR hb ?_
  refine j_if_eq (tgt := 16) dX11_hand_5 (by decide) (fun _ => ?_) (fun h5 => absurd (by decide) h5)
  refine j_aload_n dX11_hand_16 rfl rfl ?_
  refine j_iconst (v := 1) dX11_hand_17 (by decide) ?_
  refine cV11_318 (d1 := 1) rfl dX11_hand_18 (by decide) (Nat.le_of_ble_eq_true rfl) ?_
  refine c_denied ?_
  refine j_zret rfl (by decide) dX11_hand_21 ?_
  exact hp
theorem cx_handB2 {g : Nat} {h : Int32} (hX : XR mr) (hT : TT T) (hTn : mr 0 2 = some T) (hW : WT t) (hR : RX mi T t) (h1 : g < t 0 6) (hb : bad h (t 0 3)) (hp : post (some (.int 0)) (up mi 0 9 1) ml mr dom) : CT G 2 0 0 yX11_hand cX11_hand 5 (some .boolean) [.ref 0, .int (nI g), .int h] mi ml mr dom post := by
  have w := hW.1
  refine enter 2 (by decide) rfl rfl (fun X => ?_)
  refine j_aload_n dX11_hand_0 rfl rfl ?_
  refine j_iload_n dX11_hand_1 rfl rfl ?_
  refine cV11_157 (d1 := 1) rfl dX11_hand_2 (by decide) (Nat.le_of_ble_eq_true rfl) ?_
  refine c_isGoodG hX hT hTn hW hR h1 ?_
  refine j_if_eq (tgt := 16) dX11_hand_5 (by decide) (fun h5 => absurd h5 (by decide)) (fun _ => ?_)
  refine j_aload_n dX11_hand_8 rfl rfl ?_
  refine j_iload_n dX11_hand_9 rfl rfl ?_
  refine cV11_108 (d1 := 1) rfl dX11_hand_10 (by decide) (Nat.le_of_ble_eq_true rfl) ?_
  refine c_isHouseB hX hT hTn hW hR hb ?_
  refine j_if_ne (tgt := 22) dX11_hand_13 (by decide) (fun h13 => absurd (by decide) h13) (fun _ => ?_)
  refine j_aload_n dX11_hand_16 rfl rfl ?_
  refine j_iconst (v := 1) dX11_hand_17 (by decide) ?_
  refine cV11_318 (d1 := 1) rfl dX11_hand_18 (by decide) (Nat.le_of_ble_eq_true rfl) ?_
  refine c_denied ?_
  refine j_zret rfl (by decide) dX11_hand_21 ?_
  exact hp
theorem cx_handN {g h : Nat} (hX : XR mr) (hT : TT T) (hTn : mr 0 2 = some T) (hW : WT t) (hR : RX mi T t) (h1 : g < t 0 6) (h2 : h < t 0 3) (hG : GP mi t v) (hL : 60 ≤ t 0 2) {hr : Nat} (hhr : mi 9 11 = nI hr) (hhb : hr < 2 ^ 31) (hno : (decide (0 < t 2 (6 * v (6 + g) + h)) && (!(isD t hr) || pasB t (t 8 g) (v (6 + g)) h)) = false) (hp : post (some (.int 0)) (up mi 0 9 5) ml mr dom) : CT G 3 0 0 yX11_hand cX11_hand 5 (some .boolean) [.ref 0, .int (nI g), .int (nI h)] mi ml mr dom post := by
  have w := hW.1
  have hv3 := (hG g h1).2
  have e6 : (6 : Int32) + nI g = nI (6 + g) := by rw [show (6 : Int32) = nI 6 from rfl, nI_add]
  refine enter 2 (by decide) rfl rfl (fun X => ?_)
  refine j_aload_n dX11_hand_0 rfl rfl ?_
  refine j_iload_n dX11_hand_1 rfl rfl ?_
  refine cV11_157 (d1 := 1) rfl dX11_hand_2 (by decide) (Nat.le_of_ble_eq_true rfl) ?_
  refine c_isGoodG hX hT hTn hW hR h1 ?_
  refine j_if_eq (tgt := 16) dX11_hand_5 (by decide) (fun h5 => absurd h5 (by decide)) (fun _ => ?_)
  refine j_aload_n dX11_hand_8 rfl rfl ?_
  refine j_iload_n dX11_hand_9 rfl rfl ?_
  refine cV11_108 (d1 := 1) rfl dX11_hand_10 (by decide) (Nat.le_of_ble_eq_true rfl) ?_
  refine c_isHouseG hX hT hTn hW hR h2 ?_
  refine j_if_ne (tgt := 22) dX11_hand_13 (by decide) (fun _ => ?_) (fun h13 => absurd h13 (by decide))
  refine j_aload_n dX11_hand_22 rfl rfl ?_
  refine gR11_37 rfl dX11_hand_23 (x_present hX) ?_
  refine j_iload_n dX11_hand_26 rfl rfl ?_
  refine cV11_172 (d1 := 1) rfl dX11_hand_27 (by decide) (Nat.le_of_ble_eq_true rfl) ?_
  refine c_place hX hW hG h1 ?_
  refine j_istore_n (lv2 := [_, _, _, _, _]) dX11_hand_30 rfl (by decide) rfl rfl ?_
  refine j_aload_n dX11_hand_31 rfl rfl ?_
  refine gR11_20 rfl dX11_hand_32 hTn ?_
  refine j_aload_n dX11_hand_35 rfl rfl ?_
  refine gR11_37 rfl dX11_hand_36 (x_present hX) ?_
  refine cV11_321 (d1 := 1) rfl dX11_hand_39 (by decide) (Nat.le_of_ble_eq_true rfl) ?_
  refine tX4_hour hX ?_
  rw [show (Int32.toNatClampNeg 11) = 11 from rfl, hhr]
  refine cV11_185 (d1 := 1) (kT0 hT) dX11_hand_42 (by decide) (Nat.le_of_ble_eq_true rfl) ?_
  refine c_isDay hT hW hR (by omega) ?_
  refine j_if_eq (tgt := 72) dX11_hand_45 (by decide) (fun h45 => ?_) (fun h45 => ?_)
  · refine j_iconst (v := 1) dX11_hand_72 (by decide) ?_
    refine j_goto (tgt := 77) dX11_hand_73 (by decide) ?_
    refine j_istore (lv2 := [_, _, _, _, _]) dX11_hand_77 (by decide) rfl rfl ?_
    refine j_aload_n dX11_hand_79 rfl rfl ?_
    refine gR11_20 rfl dX11_hand_80 hTn ?_
    refine gR11_89 (kT0 hT) dX11_hand_83 (xT_lanes hX hT) ?_
    refine j_iload_n dX11_hand_86 rfl rfl ?_
    refine j_iload_n dX11_hand_87 rfl rfl ?_
    refine cV11_327 (d1 := 1) (kT2 hT) dX11_hand_88 (by decide) (Nat.le_of_ble_eq_true rfl) ?_
    refine c_join hX hT (show v (6 + g) < 6 by omega) (show h < 6 by omega) (hR.min (by omega)) (by have := hW.2.2.1 (6 * v (6 + g) + h); omega) ?_
    refine j_if_eq (tgt := 99) dX11_hand_91 (by decide) (fun h91 => ?_) (fun h91 => ?_)
    · refine j_aload_n dX11_hand_99 rfl rfl ?_
      refine j_iconst (v := 5) dX11_hand_100 (by decide) ?_
      refine cV11_318 (d1 := 1) rfl dX11_hand_101 (by decide) (Nat.le_of_ble_eq_true rfl) ?_
      refine c_denied ?_
      refine j_zret rfl (by decide) dX11_hand_104 ?_
      exact hp
    · refine j_iload dX11_hand_94 rfl ?_
      refine j_if_ne (tgt := 105) dX11_hand_96 (by decide) (fun h96 => ?_) (fun h96 => ?_)
      · exfalso
        rw [bN_eq0, Bool.not_eq_false] at h91
        first
          | (rw [bN_eq0] at h45; rw [h91, h45] at hno; exact absurd hno (by decide))
          | (rw [bN_eq0, Bool.not_eq_false] at h69; rw [h91, h69, Bool.or_true] at hno; exact absurd hno (by decide))
          | exact absurd rfl h96
          | (rw [bN_eq0] at h45; simp [h91, h45] at hno)
      · refine j_aload_n dX11_hand_99 rfl rfl ?_
        refine j_iconst (v := 5) dX11_hand_100 (by decide) ?_
        refine cV11_318 (d1 := 1) rfl dX11_hand_101 (by decide) (Nat.le_of_ble_eq_true rfl) ?_
        refine c_denied ?_
        refine j_zret rfl (by decide) dX11_hand_104 ?_
        exact hp
  · refine j_aload_n dX11_hand_48 rfl rfl ?_
    refine gR11_20 rfl dX11_hand_49 hTn ?_
    refine j_aload_n dX11_hand_52 rfl rfl ?_
    refine gR11_20 rfl dX11_hand_53 hTn ?_
    refine gR11_160 (kT0 hT) dX11_hand_56 (xT_wares hX hT) ?_
    refine j_iload_n dX11_hand_59 rfl rfl ?_
    refine j_aald (C := RX1) (kT6 hT) (by decide) (fun _ => rfl) (inT (lT6 hT) (show g < 5 by omega) (by omega)) (mr_nI (by omega) (xT_g hX hT (show g < 5 by omega))) dX11_hand_60 (by decide) ?_
    refine gI11_164 (kG hT (show g < 5 by omega)) dX11_hand_61 ?_
    refine j_iload_n dX11_hand_64 rfl rfl ?_
    refine j_iload_n dX11_hand_65 rfl rfl ?_
    refine cV11_323 (d1 := 2) (kT0 hT) dX11_hand_66 (by decide) (Nat.le_of_ble_eq_true rfl) ?_
    rw [(hR.go h1).1]
    refine c_passesBoth hX hT hW hR hL (by have := (hW.go h1).2.1; omega) hv3 h2 ?_
    refine j_if_eq (tgt := 76) dX11_hand_69 (by decide) (fun h69 => ?_) (fun h69 => ?_)
    · refine j_iconst (v := 0) dX11_hand_76 (by decide) ?_
      refine j_istore (lv2 := [_, _, _, _, _]) dX11_hand_77 (by decide) rfl rfl ?_
      refine j_aload_n dX11_hand_79 rfl rfl ?_
      refine gR11_20 rfl dX11_hand_80 hTn ?_
      refine gR11_89 (kT0 hT) dX11_hand_83 (xT_lanes hX hT) ?_
      refine j_iload_n dX11_hand_86 rfl rfl ?_
      refine j_iload_n dX11_hand_87 rfl rfl ?_
      refine cV11_327 (d1 := 1) (kT2 hT) dX11_hand_88 (by decide) (Nat.le_of_ble_eq_true rfl) ?_
      refine c_join hX hT (show v (6 + g) < 6 by omega) (show h < 6 by omega) (hR.min (by omega)) (by have := hW.2.2.1 (6 * v (6 + g) + h); omega) ?_
      refine j_if_eq (tgt := 99) dX11_hand_91 (by decide) (fun h91 => ?_) (fun h91 => ?_)
      · refine j_aload_n dX11_hand_99 rfl rfl ?_
        refine j_iconst (v := 5) dX11_hand_100 (by decide) ?_
        refine cV11_318 (d1 := 1) rfl dX11_hand_101 (by decide) (Nat.le_of_ble_eq_true rfl) ?_
        refine c_denied ?_
        refine j_zret rfl (by decide) dX11_hand_104 ?_
        exact hp
      · refine j_iload dX11_hand_94 rfl ?_
        refine j_if_ne (tgt := 105) dX11_hand_96 (by decide) (fun h96 => ?_) (fun h96 => ?_)
        · exfalso
          rw [bN_eq0, Bool.not_eq_false] at h91
          first
            | (rw [bN_eq0] at h45; rw [h91, h45] at hno; exact absurd hno (by decide))
            | (rw [bN_eq0, Bool.not_eq_false] at h69; rw [h91, h69, Bool.or_true] at hno; exact absurd hno (by decide))
            | exact absurd rfl h96
            | (rw [bN_eq0] at h45; simp [h91, h45] at hno)
        · refine j_aload_n dX11_hand_99 rfl rfl ?_
          refine j_iconst (v := 5) dX11_hand_100 (by decide) ?_
          refine cV11_318 (d1 := 1) rfl dX11_hand_101 (by decide) (Nat.le_of_ble_eq_true rfl) ?_
          refine c_denied ?_
          refine j_zret rfl (by decide) dX11_hand_104 ?_
          exact hp
    · refine j_iconst (v := 1) dX11_hand_72 (by decide) ?_
      refine j_goto (tgt := 77) dX11_hand_73 (by decide) ?_
      refine j_istore (lv2 := [_, _, _, _, _]) dX11_hand_77 (by decide) rfl rfl ?_
      refine j_aload_n dX11_hand_79 rfl rfl ?_
      refine gR11_20 rfl dX11_hand_80 hTn ?_
      refine gR11_89 (kT0 hT) dX11_hand_83 (xT_lanes hX hT) ?_
      refine j_iload_n dX11_hand_86 rfl rfl ?_
      refine j_iload_n dX11_hand_87 rfl rfl ?_
      refine cV11_327 (d1 := 1) (kT2 hT) dX11_hand_88 (by decide) (Nat.le_of_ble_eq_true rfl) ?_
      refine c_join hX hT (show v (6 + g) < 6 by omega) (show h < 6 by omega) (hR.min (by omega)) (by have := hW.2.2.1 (6 * v (6 + g) + h); omega) ?_
      refine j_if_eq (tgt := 99) dX11_hand_91 (by decide) (fun h91 => ?_) (fun h91 => ?_)
      · refine j_aload_n dX11_hand_99 rfl rfl ?_
        refine j_iconst (v := 5) dX11_hand_100 (by decide) ?_
        refine cV11_318 (d1 := 1) rfl dX11_hand_101 (by decide) (Nat.le_of_ble_eq_true rfl) ?_
        refine c_denied ?_
        refine j_zret rfl (by decide) dX11_hand_104 ?_
        exact hp
      · refine j_iload dX11_hand_94 rfl ?_
        refine j_if_ne (tgt := 105) dX11_hand_96 (by decide) (fun h96 => ?_) (fun h96 => ?_)
        · exfalso
          rw [bN_eq0, Bool.not_eq_false] at h91
          first
            | (rw [bN_eq0] at h45; rw [h91, h45] at hno; exact absurd hno (by decide))
            | (rw [bN_eq0, Bool.not_eq_false] at h69; rw [h91, h69, Bool.or_true] at hno; exact absurd hno (by decide))
            | exact absurd rfl h96
            | (rw [bN_eq0] at h45; simp [h91, h45] at hno)
        · refine j_aload_n dX11_hand_99 rfl rfl ?_
          refine j_iconst (v := 5) dX11_hand_100 (by decide) ?_
          refine cV11_318 (d1 := 1) rfl dX11_hand_101 (by decide) (Nat.le_of_ble_eq_true rfl) ?_
          refine c_denied ?_
          refine j_zret rfl (by decide) dX11_hand_104 ?_
          exact hp
theorem cx_hand {g h : Nat} (hX : XR mr) (hT : TT T) (hTn : mr 0 2 = some T) (hW : WT t) (hR : RX mi T t) (h1 : g < t 0 6) (h2 : h < t 0 3) (hG : GP mi t v) (hL : 60 ≤ t 0 2) {hr : Nat} (hhr : mi 9 11 = nI hr) (hhb : hr < 2 ^ 31) (hyes : (decide (0 < t 2 (6 * v (6 + g) + h)) && (!(isD t hr) || pasB t (t 8 g) (v (6 + g)) h)) = true) {w0 k0 : Nat} (hw : mi 8 4 = nI w0) (hw16 : w0 < 16) (hk : mi 8 0 = nI k0) (hk16 : k0 ≤ 16) (hp : post (some (.int 1)) (up (up (kpm mi w0 k0) 9 (6 + g) (nI h)) 0 9 0) ml mr dom) : CT G 3 0 0 yX11_hand cX11_hand 5 (some .boolean) [.ref 0, .int (nI g), .int (nI h)] mi ml mr dom post := by
  have w := hW.1
  have hv3 := (hG g h1).2
  have e6 : (6 : Int32) + nI g = nI (6 + g) := by rw [show (6 : Int32) = nI 6 from rfl, nI_add]
  refine enter 2 (by decide) rfl rfl (fun X => ?_)
  refine j_aload_n dX11_hand_0 rfl rfl ?_
  refine j_iload_n dX11_hand_1 rfl rfl ?_
  refine cV11_157 (d1 := 1) rfl dX11_hand_2 (by decide) (Nat.le_of_ble_eq_true rfl) ?_
  refine c_isGoodG hX hT hTn hW hR h1 ?_
  refine j_if_eq (tgt := 16) dX11_hand_5 (by decide) (fun h5 => absurd h5 (by decide)) (fun _ => ?_)
  refine j_aload_n dX11_hand_8 rfl rfl ?_
  refine j_iload_n dX11_hand_9 rfl rfl ?_
  refine cV11_108 (d1 := 1) rfl dX11_hand_10 (by decide) (Nat.le_of_ble_eq_true rfl) ?_
  refine c_isHouseG hX hT hTn hW hR h2 ?_
  refine j_if_ne (tgt := 22) dX11_hand_13 (by decide) (fun _ => ?_) (fun h13 => absurd h13 (by decide))
  refine j_aload_n dX11_hand_22 rfl rfl ?_
  refine gR11_37 rfl dX11_hand_23 (x_present hX) ?_
  refine j_iload_n dX11_hand_26 rfl rfl ?_
  refine cV11_172 (d1 := 1) rfl dX11_hand_27 (by decide) (Nat.le_of_ble_eq_true rfl) ?_
  refine c_place hX hW hG h1 ?_
  refine j_istore_n (lv2 := [_, _, _, _, _]) dX11_hand_30 rfl (by decide) rfl rfl ?_
  refine j_aload_n dX11_hand_31 rfl rfl ?_
  refine gR11_20 rfl dX11_hand_32 hTn ?_
  refine j_aload_n dX11_hand_35 rfl rfl ?_
  refine gR11_37 rfl dX11_hand_36 (x_present hX) ?_
  refine cV11_321 (d1 := 1) rfl dX11_hand_39 (by decide) (Nat.le_of_ble_eq_true rfl) ?_
  refine tX4_hour hX ?_
  rw [show (Int32.toNatClampNeg 11) = 11 from rfl, hhr]
  refine cV11_185 (d1 := 1) (kT0 hT) dX11_hand_42 (by decide) (Nat.le_of_ble_eq_true rfl) ?_
  refine c_isDay hT hW hR (by omega) ?_
  refine j_if_eq (tgt := 72) dX11_hand_45 (by decide) (fun h45 => ?_) (fun h45 => ?_)
  · refine j_iconst (v := 1) dX11_hand_72 (by decide) ?_
    refine j_goto (tgt := 77) dX11_hand_73 (by decide) ?_
    refine j_istore (lv2 := [_, _, _, _, _]) dX11_hand_77 (by decide) rfl rfl ?_
    refine j_aload_n dX11_hand_79 rfl rfl ?_
    refine gR11_20 rfl dX11_hand_80 hTn ?_
    refine gR11_89 (kT0 hT) dX11_hand_83 (xT_lanes hX hT) ?_
    refine j_iload_n dX11_hand_86 rfl rfl ?_
    refine j_iload_n dX11_hand_87 rfl rfl ?_
    refine cV11_327 (d1 := 1) (kT2 hT) dX11_hand_88 (by decide) (Nat.le_of_ble_eq_true rfl) ?_
    refine c_join hX hT (show v (6 + g) < 6 by omega) (show h < 6 by omega) (hR.min (by omega)) (by have := hW.2.2.1 (6 * v (6 + g) + h); omega) ?_
    refine j_if_eq (tgt := 99) dX11_hand_91 (by decide) (fun h91 => ?_) (fun h91 => ?_)
    · exfalso
      rw [Bool.and_eq_true] at hyes
      first
        | (rw [bN_eq0] at h91; rw [h91] at hyes; exact absurd hyes.1 (by decide))
        | (rw [bN_eq0] at h69; rw [bN_eq0, Bool.not_eq_false] at h45; rw [h69, h45] at hyes; exact absurd hyes.2 (by decide))
        | exact absurd h96 (by decide)
    · refine j_iload dX11_hand_94 rfl ?_
      refine j_if_ne (tgt := 105) dX11_hand_96 (by decide) (fun h96 => ?_) (fun h96 => ?_)
      · refine j_aload_n dX11_hand_105 rfl rfl ?_
        refine gR11_37 rfl dX11_hand_106 (x_present hX) ?_
        refine cV11_311 (d1 := 2) rfl dX11_hand_109 (by decide) (Nat.le_of_ble_eq_true rfl) ?_
        refine c_keep hX hw hw16 hk hk16 ?_
        refine j_aload_n dX11_hand_112 rfl rfl ?_
        refine gR11_37 rfl dX11_hand_113 (x_present hX) ?_
        refine j_iload_n dX11_hand_116 rfl rfl ?_
        refine j_iload_n dX11_hand_117 rfl rfl ?_
        refine cV11_330 (d1 := 1) rfl dX11_hand_118 (by decide) (Nat.le_of_ble_eq_true rfl) ?_
        refine tX4_moveGood hX (by rw [e6]; exact vp_in_nI (show 6 + g < 13 by omega) (by omega)) ?_
        rw [e6, nI_clamp (by omega)]
        refine j_aload_n dX11_hand_121 rfl rfl ?_
        refine cV11_333 (d1 := 1) rfl dX11_hand_122 (by decide) (Nat.le_of_ble_eq_true rfl) ?_
        refine c_granted ?_
        refine j_zret rfl (by decide) dX11_hand_125 ?_
        exact hp
      · exfalso
        rw [Bool.and_eq_true] at hyes
        first
          | (rw [bN_eq0] at h91; rw [h91] at hyes; exact absurd hyes.1 (by decide))
          | (rw [bN_eq0] at h69; rw [bN_eq0, Bool.not_eq_false] at h45; rw [h69, h45] at hyes; exact absurd hyes.2 (by decide))
          | exact absurd h96 (by decide)
  · refine j_aload_n dX11_hand_48 rfl rfl ?_
    refine gR11_20 rfl dX11_hand_49 hTn ?_
    refine j_aload_n dX11_hand_52 rfl rfl ?_
    refine gR11_20 rfl dX11_hand_53 hTn ?_
    refine gR11_160 (kT0 hT) dX11_hand_56 (xT_wares hX hT) ?_
    refine j_iload_n dX11_hand_59 rfl rfl ?_
    refine j_aald (C := RX1) (kT6 hT) (by decide) (fun _ => rfl) (inT (lT6 hT) (show g < 5 by omega) (by omega)) (mr_nI (by omega) (xT_g hX hT (show g < 5 by omega))) dX11_hand_60 (by decide) ?_
    refine gI11_164 (kG hT (show g < 5 by omega)) dX11_hand_61 ?_
    refine j_iload_n dX11_hand_64 rfl rfl ?_
    refine j_iload_n dX11_hand_65 rfl rfl ?_
    refine cV11_323 (d1 := 2) (kT0 hT) dX11_hand_66 (by decide) (Nat.le_of_ble_eq_true rfl) ?_
    rw [(hR.go h1).1]
    refine c_passesBoth hX hT hW hR hL (by have := (hW.go h1).2.1; omega) hv3 h2 ?_
    refine j_if_eq (tgt := 76) dX11_hand_69 (by decide) (fun h69 => ?_) (fun h69 => ?_)
    · refine j_iconst (v := 0) dX11_hand_76 (by decide) ?_
      refine j_istore (lv2 := [_, _, _, _, _]) dX11_hand_77 (by decide) rfl rfl ?_
      refine j_aload_n dX11_hand_79 rfl rfl ?_
      refine gR11_20 rfl dX11_hand_80 hTn ?_
      refine gR11_89 (kT0 hT) dX11_hand_83 (xT_lanes hX hT) ?_
      refine j_iload_n dX11_hand_86 rfl rfl ?_
      refine j_iload_n dX11_hand_87 rfl rfl ?_
      refine cV11_327 (d1 := 1) (kT2 hT) dX11_hand_88 (by decide) (Nat.le_of_ble_eq_true rfl) ?_
      refine c_join hX hT (show v (6 + g) < 6 by omega) (show h < 6 by omega) (hR.min (by omega)) (by have := hW.2.2.1 (6 * v (6 + g) + h); omega) ?_
      refine j_if_eq (tgt := 99) dX11_hand_91 (by decide) (fun h91 => ?_) (fun h91 => ?_)
      · exfalso
        rw [Bool.and_eq_true] at hyes
        first
          | (rw [bN_eq0] at h91; rw [h91] at hyes; exact absurd hyes.1 (by decide))
          | (rw [bN_eq0] at h69; rw [bN_eq0, Bool.not_eq_false] at h45; rw [h69, h45] at hyes; exact absurd hyes.2 (by decide))
          | exact absurd h96 (by decide)
      · refine j_iload dX11_hand_94 rfl ?_
        refine j_if_ne (tgt := 105) dX11_hand_96 (by decide) (fun h96 => ?_) (fun h96 => ?_)
        · refine j_aload_n dX11_hand_105 rfl rfl ?_
          refine gR11_37 rfl dX11_hand_106 (x_present hX) ?_
          refine cV11_311 (d1 := 2) rfl dX11_hand_109 (by decide) (Nat.le_of_ble_eq_true rfl) ?_
          refine c_keep hX hw hw16 hk hk16 ?_
          refine j_aload_n dX11_hand_112 rfl rfl ?_
          refine gR11_37 rfl dX11_hand_113 (x_present hX) ?_
          refine j_iload_n dX11_hand_116 rfl rfl ?_
          refine j_iload_n dX11_hand_117 rfl rfl ?_
          refine cV11_330 (d1 := 1) rfl dX11_hand_118 (by decide) (Nat.le_of_ble_eq_true rfl) ?_
          refine tX4_moveGood hX (by rw [e6]; exact vp_in_nI (show 6 + g < 13 by omega) (by omega)) ?_
          rw [e6, nI_clamp (by omega)]
          refine j_aload_n dX11_hand_121 rfl rfl ?_
          refine cV11_333 (d1 := 1) rfl dX11_hand_122 (by decide) (Nat.le_of_ble_eq_true rfl) ?_
          refine c_granted ?_
          refine j_zret rfl (by decide) dX11_hand_125 ?_
          exact hp
        · exfalso
          rw [Bool.and_eq_true] at hyes
          first
            | (rw [bN_eq0] at h91; rw [h91] at hyes; exact absurd hyes.1 (by decide))
            | (rw [bN_eq0] at h69; rw [bN_eq0, Bool.not_eq_false] at h45; rw [h69, h45] at hyes; exact absurd hyes.2 (by decide))
            | exact absurd h96 (by decide)
    · refine j_iconst (v := 1) dX11_hand_72 (by decide) ?_
      refine j_goto (tgt := 77) dX11_hand_73 (by decide) ?_
      refine j_istore (lv2 := [_, _, _, _, _]) dX11_hand_77 (by decide) rfl rfl ?_
      refine j_aload_n dX11_hand_79 rfl rfl ?_
      refine gR11_20 rfl dX11_hand_80 hTn ?_
      refine gR11_89 (kT0 hT) dX11_hand_83 (xT_lanes hX hT) ?_
      refine j_iload_n dX11_hand_86 rfl rfl ?_
      refine j_iload_n dX11_hand_87 rfl rfl ?_
      refine cV11_327 (d1 := 1) (kT2 hT) dX11_hand_88 (by decide) (Nat.le_of_ble_eq_true rfl) ?_
      refine c_join hX hT (show v (6 + g) < 6 by omega) (show h < 6 by omega) (hR.min (by omega)) (by have := hW.2.2.1 (6 * v (6 + g) + h); omega) ?_
      refine j_if_eq (tgt := 99) dX11_hand_91 (by decide) (fun h91 => ?_) (fun h91 => ?_)
      · exfalso
        rw [Bool.and_eq_true] at hyes
        first
          | (rw [bN_eq0] at h91; rw [h91] at hyes; exact absurd hyes.1 (by decide))
          | (rw [bN_eq0] at h69; rw [bN_eq0, Bool.not_eq_false] at h45; rw [h69, h45] at hyes; exact absurd hyes.2 (by decide))
          | exact absurd h96 (by decide)
      · refine j_iload dX11_hand_94 rfl ?_
        refine j_if_ne (tgt := 105) dX11_hand_96 (by decide) (fun h96 => ?_) (fun h96 => ?_)
        · refine j_aload_n dX11_hand_105 rfl rfl ?_
          refine gR11_37 rfl dX11_hand_106 (x_present hX) ?_
          refine cV11_311 (d1 := 2) rfl dX11_hand_109 (by decide) (Nat.le_of_ble_eq_true rfl) ?_
          refine c_keep hX hw hw16 hk hk16 ?_
          refine j_aload_n dX11_hand_112 rfl rfl ?_
          refine gR11_37 rfl dX11_hand_113 (x_present hX) ?_
          refine j_iload_n dX11_hand_116 rfl rfl ?_
          refine j_iload_n dX11_hand_117 rfl rfl ?_
          refine cV11_330 (d1 := 1) rfl dX11_hand_118 (by decide) (Nat.le_of_ble_eq_true rfl) ?_
          refine tX4_moveGood hX (by rw [e6]; exact vp_in_nI (show 6 + g < 13 by omega) (by omega)) ?_
          rw [e6, nI_clamp (by omega)]
          refine j_aload_n dX11_hand_121 rfl rfl ?_
          refine cV11_333 (d1 := 1) rfl dX11_hand_122 (by decide) (Nat.le_of_ble_eq_true rfl) ?_
          refine c_granted ?_
          refine j_zret rfl (by decide) dX11_hand_125 ?_
          exact hp
        · exfalso
          rw [Bool.and_eq_true] at hyes
          first
            | (rw [bN_eq0] at h91; rw [h91] at hyes; exact absurd hyes.1 (by decide))
            | (rw [bN_eq0] at h69; rw [bN_eq0, Bool.not_eq_false] at h45; rw [h69, h45] at hyes; exact absurd hyes.2 (by decide))
            | exact absurd h96 (by decide)
theorem cx_hoursN {x : Int32} (hX : XR mr) (hT : TT T) (hTn : mr 0 2 = some T) (hW : WT t) (hR : RX mi T t) (h0 : mi T 0 = 0) (hp : post (some (.int (-1))) (up mi 0 9 1) ml mr dom) : CT G 2 0 0 yX11_hours cX11_hours 2 (some .int) [.ref 0, .int x] mi ml mr dom post := by
  have w := hW.1
  refine enter 0 (by decide) rfl rfl (fun X => ?_)
  refine j_aload_n dX11_hours_0 rfl rfl ?_
  refine gR11_20 rfl dX11_hours_1 hTn ?_
  refine gI11_178 (kT0 hT) dX11_hours_4 ?_
  refine j_if_ne (tgt := 16) dX11_hours_7 (by decide) (fun h7 => absurd h7 (fun q => q h0)) (fun _ => ?_)
  refine j_aload_n dX11_hours_10 rfl rfl ?_
  refine j_iconst (v := 1) dX11_hours_11 (by decide) ?_
  refine cV11_75 (d1 := 1) rfl dX11_hours_12 (by decide) (Nat.le_of_ble_eq_true rfl) ?_
  refine c_refuse ?_
  refine j_iret rfl dX11_hours_15 ?_
  exact hp
theorem cx_hoursB {x : Int32} (hX : XR mr) (hT : TT T) (hTn : mr 0 2 = some T) (hW : WT t) (hR : RX mi T t) (h0 : mi T 0 = 1) (hb : x < 1 ∨ 24 < x) (hp : post (some (.int (-1))) (up mi 0 9 2) ml mr dom) : CT G 2 0 0 yX11_hours cX11_hours 2 (some .int) [.ref 0, .int x] mi ml mr dom post := by
  have w := hW.1
  refine enter 0 (by decide) rfl rfl (fun X => ?_)
  refine j_aload_n dX11_hours_0 rfl rfl ?_
  refine gR11_20 rfl dX11_hours_1 hTn ?_
  refine gI11_178 (kT0 hT) dX11_hours_4 ?_
  refine j_if_ne (tgt := 16) dX11_hours_7 (by decide) (fun _ => ?_) (fun h7 => absurd h7 (by rw [h0]; decide))
  refine j_iload_n dX11_hours_16 rfl rfl ?_
  refine j_iconst (v := 1) dX11_hours_17 (by decide) ?_
  refine j_icmp_lt (tgt := 27) dX11_hours_18 (by decide) (fun h18 => ?_) (fun h18 => ?_)
  · refine j_aload_n dX11_hours_27 rfl rfl ?_
    refine j_iconst (v := 2) dX11_hours_28 (by decide) ?_
    refine cV11_75 (d1 := 1) rfl dX11_hours_29 (by decide) (Nat.le_of_ble_eq_true rfl) ?_
    refine c_refuse ?_
    refine j_iret rfl dX11_hours_32 ?_
    exact hp
  · refine j_iload_n dX11_hours_21 rfl rfl ?_
    refine j_bipush (v := 24) dX11_hours_22 (by decide) ?_
    refine j_icmp_le (tgt := 33) dX11_hours_24 (by decide) (fun h24 => ?_) (fun h24 => ?_)
    · exact absurd (hb.resolve_left h18) (Int32.not_lt.mpr h24)
    · refine j_aload_n dX11_hours_27 rfl rfl ?_
      refine j_iconst (v := 2) dX11_hours_28 (by decide) ?_
      refine cV11_75 (d1 := 1) rfl dX11_hours_29 (by decide) (Nat.le_of_ble_eq_true rfl) ?_
      refine c_refuse ?_
      refine j_iret rfl dX11_hours_32 ?_
      exact hp
theorem cx_hours {n hr : Nat} (hX : XR mr) (hT : TT T) (hTn : mr 0 2 = some T) (hW : WT t) (hR : RX mi T t) (h0 : mi T 0 = 1) (h1 : 1 ≤ n) (h2 : n ≤ 24) (hhr : mi 9 11 = nI hr) (hhb : hr < 24) {w0 k0 : Nat} (hw : mi 8 4 = nI w0) (hw16 : w0 < 16) (hk : mi 8 0 = nI k0) (hk16 : k0 ≤ 16) (hp : post (some (.int (nI ((hr + n) % 24)))) (up (up (up (kpm mi w0 k0) 9 12 (mi 9 12 + nI ((hr + n) / 24))) 9 11 (nI ((hr + n) % 24))) 0 9 0) ml mr dom) : CT G 3 0 0 yX11_hours cX11_hours 2 (some .int) [.ref 0, .int (nI n)] mi ml mr dom post := by
  have w := hW.1
  refine enter 0 (by decide) rfl rfl (fun X => ?_)
  refine j_aload_n dX11_hours_0 rfl rfl ?_
  refine gR11_20 rfl dX11_hours_1 hTn ?_
  refine gI11_178 (kT0 hT) dX11_hours_4 ?_
  refine j_if_ne (tgt := 16) dX11_hours_7 (by decide) (fun _ => ?_) (fun h7 => absurd h7 (by rw [h0]; decide))
  refine j_iload_n dX11_hours_16 rfl rfl ?_
  refine j_iconst (v := 1) dX11_hours_17 (by decide) ?_
  refine j_icmp_lt (tgt := 27) dX11_hours_18 (by decide) (fun h18 => absurd h18 (nI_nlt (b := 1) h1 (by omega))) (fun _ => ?_)
  refine j_iload_n dX11_hours_21 rfl rfl ?_
  refine j_bipush (v := 24) dX11_hours_22 (by decide) ?_
  refine j_icmp_le (tgt := 33) dX11_hours_24 (by decide) (fun _ => ?_) (fun h24 => absurd (nI_le (b := 24) h2 (by decide)) h24)
  refine j_aload_n dX11_hours_33 rfl rfl ?_
  refine gR11_37 rfl dX11_hours_34 (x_present hX) ?_
  refine cV11_311 (d1 := 2) rfl dX11_hours_37 (by decide) (Nat.le_of_ble_eq_true rfl) ?_
  refine c_keep hX hw hw16 hk hk16 ?_
  refine j_aload_n dX11_hours_40 rfl rfl ?_
  refine gR11_37 rfl dX11_hours_41 (x_present hX) ?_
  refine j_iload_n dX11_hours_44 rfl rfl ?_
  refine cV11_337 (d1 := 1) rfl dX11_hours_45 (by decide) (Nat.le_of_ble_eq_true rfl) ?_
  refine tX4_passHours hX ?_
  rw [show (Int32.toNatClampNeg 11) = 11 from rfl, show (Int32.toNatClampNeg 12) = 12 from rfl]
  rw [show (up (cpm (up mi 8 4 (nI ((w0 + 1) % 16))) 9 10 0 (13 * ((w0 + 1) % 16)) 13) 8 0 (nI (min (k0 + 1) 16))) = kpm mi w0 k0 from rfl, kpm_off _ (by decide) (by decide), hhr, nI_add, show (24 : Int32) = nI 24 from rfl, pk_rem (by omega) (by omega) (by omega), pk_div (by omega) (by omega) (by omega)]
  refine j_aload_n dX11_hours_48 rfl rfl ?_
  refine j_aload_n dX11_hours_49 rfl rfl ?_
  refine gR11_37 rfl dX11_hours_50 (x_present hX) ?_
  refine cV11_321 (d1 := 1) rfl dX11_hours_53 (by decide) (Nat.le_of_ble_eq_true rfl) ?_
  refine tX4_hour hX ?_
  rw [show (Int32.toNatClampNeg 11) = 11 from rfl, up_at]
  refine cV11_105 (d1 := 1) rfl dX11_hours_56 (by decide) (Nat.le_of_ble_eq_true rfl) ?_
  refine c_answer ?_
  refine j_iret rfl dX11_hours_59 ?_
  exact hp
theorem cx_undoN  (hX : XR mr) (hT : TT T) (hTn : mr 0 2 = some T) (hW : WT t) (hR : RX mi T t) (hk : mi 8 0 = 0) (hp : post (some (.int 0)) (up mi 0 9 6) ml mr dom) : CT G 3 0 0 yX11_undo cX11_undo 1 (some .boolean) [.ref 0] mi ml mr dom post := by
  have w := hW.1
  refine enter 0 (by decide) rfl rfl (fun X => ?_)
  refine j_aload_n dX11_undo_0 rfl rfl ?_
  refine gR11_37 rfl dX11_undo_1 (x_present hX) ?_
  refine cV11_340 (d1 := 2) rfl dX11_undo_4 (by decide) (Nat.le_of_ble_eq_true rfl) ?_
  refine c_takeBack0 hk ?_
  refine j_if_eq (tgt := 17) dX11_undo_7 (by decide) (fun _ => ?_) (fun h7 => absurd (by decide) h7)
  refine j_aload_n dX11_undo_17 rfl rfl ?_
  refine j_bipush (v := 6) dX11_undo_18 (by decide) ?_
  refine cV11_318 (d1 := 1) rfl dX11_undo_20 (by decide) (Nat.le_of_ble_eq_true rfl) ?_
  refine c_denied ?_
  refine j_zret rfl (by decide) dX11_undo_23 ?_
  exact hp
theorem cx_undo {w0 k0 : Nat} (hX : XR mr) (hT : TT T) (hTn : mr 0 2 = some T) (hW : WT t) (hR : RX mi T t) (hw : mi 8 4 = nI w0) (hw16 : w0 < 16) (hk : mi 8 0 = nI (k0 + 1)) (hk16 : k0 < 16) (hp : post (some (.int 1)) (up (up (up (cpm mi 10 9 (13 * w0) 0 13) 8 4 (nI ((w0 + 15) % 16))) 8 0 (nI k0)) 0 9 0) ml mr dom) : CT G 3 0 0 yX11_undo cX11_undo 1 (some .boolean) [.ref 0] mi ml mr dom post := by
  have w := hW.1
  refine enter 0 (by decide) rfl rfl (fun X => ?_)
  refine j_aload_n dX11_undo_0 rfl rfl ?_
  refine gR11_37 rfl dX11_undo_1 (x_present hX) ?_
  refine cV11_340 (d1 := 2) rfl dX11_undo_4 (by decide) (Nat.le_of_ble_eq_true rfl) ?_
  refine c_takeBack hX hw hw16 hk hk16 ?_
  refine j_if_eq (tgt := 17) dX11_undo_7 (by decide) (fun h7 => absurd h7 (by decide)) (fun _ => ?_)
  refine j_aload_n dX11_undo_10 rfl rfl ?_
  refine cV11_333 (d1 := 1) rfl dX11_undo_11 (by decide) (Nat.le_of_ble_eq_true rfl) ?_
  refine c_granted ?_
  refine j_goto (tgt := 23) dX11_undo_14 (by decide) ?_
  refine j_zret rfl (by decide) dX11_undo_23 ?_
  exact hp
theorem cx_imageN  (hX : XR mr) (hT : TT T) (hTn : mr 0 2 = some T) (hW : WT t) (hR : RX mi T t) (h0 : mi T 0 = 0) (hp : post (some (.int (-1))) (up mi 0 9 1) ml mr dom) : CT G 2 0 0 yX11_image cX11_image 1 (some .int) [.ref 0] mi ml mr dom post := by
  have w := hW.1
  refine enter 0 (by decide) rfl rfl (fun X => ?_)
  refine j_aload_n dX11_image_0 rfl rfl ?_
  refine gR11_20 rfl dX11_image_1 hTn ?_
  refine gI11_178 (kT0 hT) dX11_image_4 ?_
  refine j_if_ne (tgt := 16) dX11_image_7 (by decide) (fun h7 => absurd h7 (fun q => q h0)) (fun _ => ?_)
  refine j_aload_n dX11_image_10 rfl rfl ?_
  refine j_iconst (v := 1) dX11_image_11 (by decide) ?_
  refine cV11_75 (d1 := 1) rfl dX11_image_12 (by decide) (Nat.le_of_ble_eq_true rfl) ?_
  refine c_refuse ?_
  refine j_iret rfl dX11_image_15 ?_
  exact hp
theorem cx_imageF  (hX : XR mr) (hT : TT T) (hTn : mr 0 2 = some T) (hW : WT t) (hR : RX mi T t) (h0 : mi T 0 = 1) (hi : mi 8 1 = nI 3) (hp : post (some (.int (-1))) (up mi 0 9 3) ml mr dom) : CT G 2 0 0 yX11_image cX11_image 1 (some .int) [.ref 0] mi ml mr dom post := by
  have w := hW.1
  refine enter 0 (by decide) rfl rfl (fun X => ?_)
  refine j_aload_n dX11_image_0 rfl rfl ?_
  refine gR11_20 rfl dX11_image_1 hTn ?_
  refine gI11_178 (kT0 hT) dX11_image_4 ?_
  refine j_if_ne (tgt := 16) dX11_image_7 (by decide) (fun _ => ?_) (fun h7 => absurd h7 (by rw [h0]; decide))
  refine j_aload_n dX11_image_16 rfl rfl ?_
  refine gR11_37 rfl dX11_image_17 (x_present hX) ?_
  refine gI11_343 rfl dX11_image_20 ?_
  refine j_iconst (v := 3) dX11_image_23 (by decide) ?_
  refine j_icmp_lt (tgt := 33) dX11_image_24 (by decide) (fun h24 => absurd h24 (by rw [hi]; decide)) (fun _ => ?_)
  refine j_aload_n dX11_image_27 rfl rfl ?_
  refine j_iconst (v := 3) dX11_image_28 (by decide) ?_
  refine cV11_75 (d1 := 1) rfl dX11_image_29 (by decide) (Nat.le_of_ble_eq_true rfl) ?_
  refine c_refuse ?_
  refine j_iret rfl dX11_image_32 ?_
  exact hp
theorem cx_image {n : Nat} (hX : XR mr) (hT : TT T) (hTn : mr 0 2 = some T) (hW : WT t) (hR : RX mi T t) (h0 : mi T 0 = 1) (hi : mi 8 1 = nI n) (hn : n < 3) (hp : post (some (.int (nI n))) (up (up (cpm mi 9 11 0 (13 * n) 13) 8 1 (nI (n + 1))) 0 9 0) ml mr dom) : CT G 3 0 0 yX11_image cX11_image 1 (some .int) [.ref 0] mi ml mr dom post := by
  have w := hW.1
  refine enter 0 (by decide) rfl rfl (fun X => ?_)
  refine j_aload_n dX11_image_0 rfl rfl ?_
  refine gR11_20 rfl dX11_image_1 hTn ?_
  refine gI11_178 (kT0 hT) dX11_image_4 ?_
  refine j_if_ne (tgt := 16) dX11_image_7 (by decide) (fun _ => ?_) (fun h7 => absurd h7 (by rw [h0]; decide))
  refine j_aload_n dX11_image_16 rfl rfl ?_
  refine gR11_37 rfl dX11_image_17 (x_present hX) ?_
  refine gI11_343 rfl dX11_image_20 ?_
  refine j_iconst (v := 3) dX11_image_23 (by decide) ?_
  refine j_icmp_lt (tgt := 33) dX11_image_24 (by decide) (fun _ => ?_) (fun h24 => absurd (by rw [hi]; exact nI_lt (b := 3) hn (by decide)) h24)
  refine j_aload_n dX11_image_33 rfl rfl ?_
  refine j_aload_n dX11_image_34 rfl rfl ?_
  refine gR11_37 rfl dX11_image_35 (x_present hX) ?_
  refine cV11_346 (d1 := 2) rfl dX11_image_38 (by decide) (Nat.le_of_ble_eq_true rfl) ?_
  refine c_draw hX hi hn ?_
  refine cV11_105 (d1 := 1) rfl dX11_image_41 (by decide) (Nat.le_of_ble_eq_true rfl) ?_
  refine c_answer ?_
  refine j_iret rfl dX11_image_44 ?_
  exact hp
theorem cx_backN {x : Int32} {n : Nat} (hX : XR mr) (hT : TT T) (hTn : mr 0 2 = some T) (hW : WT t) (hR : RX mi T t) (hi : mi 8 1 = nI n) (hb : bad x n) (hp : post (some (.int 0)) (up mi 0 9 1) ml mr dom) : CT G 3 0 0 yX11_back cX11_back 2 (some .boolean) [.ref 0, .int x] mi ml mr dom post := by
  have w := hW.1
  refine enter 0 (by decide) rfl rfl (fun X => ?_)
  refine j_aload_n dX11_back_0 rfl rfl ?_
  refine gR11_37 rfl dX11_back_1 (x_present hX) ?_
  refine j_iload_n dX11_back_4 rfl rfl ?_
  refine cV11_349 (d1 := 2) rfl dX11_back_5 (by decide) (Nat.le_of_ble_eq_true rfl) ?_
  refine c_returnTo0 hi hb ?_
  refine j_if_eq (tgt := 18) dX11_back_8 (by decide) (fun _ => ?_) (fun h8 => absurd (by decide) h8)
  refine j_aload_n dX11_back_18 rfl rfl ?_
  refine j_iconst (v := 1) dX11_back_19 (by decide) ?_
  refine cV11_318 (d1 := 1) rfl dX11_back_20 (by decide) (Nat.le_of_ble_eq_true rfl) ?_
  refine c_denied ?_
  refine j_zret rfl (by decide) dX11_back_23 ?_
  exact hp
theorem cx_back {j n : Nat} (hX : XR mr) (hT : TT T) (hTn : mr 0 2 = some T) (hW : WT t) (hR : RX mi T t) (hi : mi 8 1 = nI n) (hj : j < n) (hn : n ≤ 3) (hp : post (some (.int 1)) (up (up (cpm mi 11 9 (13 * j) 0 13) 8 0 0) 0 9 0) ml mr dom) : CT G 3 0 0 yX11_back cX11_back 2 (some .boolean) [.ref 0, .int (nI j)] mi ml mr dom post := by
  have w := hW.1
  refine enter 0 (by decide) rfl rfl (fun X => ?_)
  refine j_aload_n dX11_back_0 rfl rfl ?_
  refine gR11_37 rfl dX11_back_1 (x_present hX) ?_
  refine j_iload_n dX11_back_4 rfl rfl ?_
  refine cV11_349 (d1 := 2) rfl dX11_back_5 (by decide) (Nat.le_of_ble_eq_true rfl) ?_
  refine c_returnTo hX hi hj hn ?_
  refine j_if_eq (tgt := 18) dX11_back_8 (by decide) (fun h8 => absurd h8 (by decide)) (fun _ => ?_)
  refine j_aload_n dX11_back_11 rfl rfl ?_
  refine cV11_333 (d1 := 1) rfl dX11_back_12 (by decide) (Nat.le_of_ble_eq_true rfl) ?_
  refine c_granted ?_
  refine j_goto (tgt := 23) dX11_back_15 (by decide) ?_
  refine j_zret rfl (by decide) dX11_back_23 ?_
  exact hp
theorem cx_fault  (hX : XR mr) (hT : TT T) (hTn : mr 0 2 = some T) (hW : WT t) (hR : RX mi T t)  (hp : post (some (.int (mi 0 10))) mi ml mr dom) : CT G 1 0 0 yX11_fault cX11_fault 1 (some .int) [.ref 0] mi ml mr dom post := by
  have w := hW.1
  refine enter 0 (by decide) rfl rfl (fun X => ?_)
  refine j_aload_n dX11_fault_0 rfl rfl ?_
  refine gI11_65 rfl dX11_fault_1 ?_
  refine j_iret rfl dX11_fault_4 ?_
  exact hp
theorem cx_trouble  (hX : XR mr) (hT : TT T) (hTn : mr 0 2 = some T) (hW : WT t) (hR : RX mi T t)  (hp : post (some (.int (mi 0 9))) mi ml mr dom) : CT G 1 0 0 yX11_trouble cX11_trouble 1 (some .int) [.ref 0] mi ml mr dom post := by
  have w := hW.1
  refine enter 0 (by decide) rfl rfl (fun X => ?_)
  refine j_aload_n dX11_trouble_0 rfl rfl ?_
  refine gI11_62 rfl dX11_trouble_1 ?_
  refine j_iret rfl dX11_trouble_4 ?_
  exact hp
theorem cx_where1  (hX : XR mr) (hT : TT T) (hTn : mr 0 2 = some T) (hW : WT t) (hR : RX mi T t) (h4 : mi 0 9 = 4) (hp : post (some (.int (mi 0 11))) mi ml mr dom) : CT G 1 0 0 yX11_where cX11_where 1 (some .int) [.ref 0] mi ml mr dom post := by
  have w := hW.1
  refine enter 0 (by decide) rfl rfl (fun X => ?_)
  refine j_aload_n dX11_where_0 rfl rfl ?_
  refine gI11_62 rfl dX11_where_1 ?_
  refine j_iconst (v := 4) dX11_where_4 (by decide) ?_
  refine j_icmp_ne (tgt := 15) dX11_where_5 (by decide) (fun h5 => absurd h5 (fun q => q h4)) (fun _ => ?_)
  refine j_aload_n dX11_where_8 rfl rfl ?_
  refine gI11_68 rfl dX11_where_9 ?_
  refine j_goto (tgt := 16) dX11_where_12 (by decide) ?_
  refine j_iret rfl dX11_where_16 ?_
  exact hp
theorem cx_where0  (hX : XR mr) (hT : TT T) (hTn : mr 0 2 = some T) (hW : WT t) (hR : RX mi T t) (h4 : ¬ mi 0 9 = 4) (hp : post (some (.int (-1))) mi ml mr dom) : CT G 1 0 0 yX11_where cX11_where 1 (some .int) [.ref 0] mi ml mr dom post := by
  have w := hW.1
  refine enter 0 (by decide) rfl rfl (fun X => ?_)
  refine j_aload_n dX11_where_0 rfl rfl ?_
  refine gI11_62 rfl dX11_where_1 ?_
  refine j_iconst (v := 4) dX11_where_4 (by decide) ?_
  refine j_icmp_ne (tgt := 15) dX11_where_5 (by decide) (fun _ => ?_) (fun h5 => absurd h5 h4)
  refine j_iconst (v := -1) dX11_where_15 (by decide) ?_
  refine j_iret rfl dX11_where_16 ?_
  exact hp
theorem cx_tS0  (hX : XR mr) (hT : TT T) (hTn : mr 0 2 = some T) (hW : WT t) (hR : RX mi T t)  (hp : post (some (.int (nI (t 0 0)))) mi ml mr dom) : CT G 1 0 0 yX11_toldSize cX11_toldSize 2 (some .int) [.ref 0, .int 0] mi ml mr dom post := by
  have w := hW.1
  refine enter 0 (by decide) rfl rfl (fun X => ?_)
  refine j_iload_n dX11_toldSize_0 rfl rfl ?_
  refine j_tableIn (tgt := 52) dX11_toldSize_1 (by decide) (by decide) (by rfl) (by decide) ?_
  refine j_aload_n dX11_toldSize_52 rfl rfl ?_
  refine gR11_20 rfl dX11_toldSize_53 hTn ?_
  refine gI11_364 (kT0 hT) dX11_toldSize_56 ?_
  refine j_iret rfl dX11_toldSize_59 ?_
  rw [hR.dawn]
  exact hp
theorem cx_size0  (hX : XR mr) (hT : TT T) (hTn : mr 0 2 = some T) (hW : WT t) (hR : RX mi T t)  (hp : post (some (.int (nI (t 0 0)))) mi ml mr dom) : CT G 2 0 0 yX11_size cX11_size 2 (some .int) [.ref 0, .int 0] mi ml mr dom post := by
  have w := hW.1
  refine enter 0 (by decide) rfl rfl (fun X => ?_)
  refine j_iload_n dX11_size_0 rfl rfl ?_
  refine j_tableOut (tgt := 101) dX11_size_1 (by decide) (by decide) ?_
  refine j_aload_n dX11_size_101 rfl rfl ?_
  refine j_iload_n dX11_size_102 rfl rfl ?_
  refine cV11_361 (d1 := 1) rfl dX11_size_103 (by decide) (Nat.le_of_ble_eq_true rfl) ?_
  refine cx_tS0 hX hT hTn hW hR ?_
  refine j_iret rfl dX11_size_106 ?_
  exact hp
theorem cx_tS1  (hX : XR mr) (hT : TT T) (hTn : mr 0 2 = some T) (hW : WT t) (hR : RX mi T t)  (hp : post (some (.int (nI (t 0 1)))) mi ml mr dom) : CT G 1 0 0 yX11_toldSize cX11_toldSize 2 (some .int) [.ref 0, .int 1] mi ml mr dom post := by
  have w := hW.1
  refine enter 0 (by decide) rfl rfl (fun X => ?_)
  refine j_iload_n dX11_toldSize_0 rfl rfl ?_
  refine j_tableIn (tgt := 60) dX11_toldSize_1 (by decide) (by decide) (by rfl) (by decide) ?_
  refine j_aload_n dX11_toldSize_60 rfl rfl ?_
  refine gR11_20 rfl dX11_toldSize_61 hTn ?_
  refine gI11_367 (kT0 hT) dX11_toldSize_64 ?_
  refine j_iret rfl dX11_toldSize_67 ?_
  rw [hR.dusk]
  exact hp
theorem cx_size1  (hX : XR mr) (hT : TT T) (hTn : mr 0 2 = some T) (hW : WT t) (hR : RX mi T t)  (hp : post (some (.int (nI (t 0 1)))) mi ml mr dom) : CT G 2 0 0 yX11_size cX11_size 2 (some .int) [.ref 0, .int 1] mi ml mr dom post := by
  have w := hW.1
  refine enter 0 (by decide) rfl rfl (fun X => ?_)
  refine j_iload_n dX11_size_0 rfl rfl ?_
  refine j_tableOut (tgt := 101) dX11_size_1 (by decide) (by decide) ?_
  refine j_aload_n dX11_size_101 rfl rfl ?_
  refine j_iload_n dX11_size_102 rfl rfl ?_
  refine cV11_361 (d1 := 1) rfl dX11_size_103 (by decide) (Nat.le_of_ble_eq_true rfl) ?_
  refine cx_tS1 hX hT hTn hW hR ?_
  refine j_iret rfl dX11_size_106 ?_
  exact hp
theorem cx_tS2  (hX : XR mr) (hT : TT T) (hTn : mr 0 2 = some T) (hW : WT t) (hR : RX mi T t)  (hp : post (some (.int (nI (t 0 2)))) mi ml mr dom) : CT G 1 0 0 yX11_toldSize cX11_toldSize 2 (some .int) [.ref 0, .int 2] mi ml mr dom post := by
  have w := hW.1
  refine enter 0 (by decide) rfl rfl (fun X => ?_)
  refine j_iload_n dX11_toldSize_0 rfl rfl ?_
  refine j_tableIn (tgt := 68) dX11_toldSize_1 (by decide) (by decide) (by rfl) (by decide) ?_
  refine j_aload_n dX11_toldSize_68 rfl rfl ?_
  refine gR11_20 rfl dX11_toldSize_69 hTn ?_
  refine gI11_370 (kT0 hT) dX11_toldSize_72 ?_
  refine j_iret rfl dX11_toldSize_75 ?_
  rw [hR.door]
  exact hp
theorem cx_size2  (hX : XR mr) (hT : TT T) (hTn : mr 0 2 = some T) (hW : WT t) (hR : RX mi T t)  (hp : post (some (.int (nI (t 0 2)))) mi ml mr dom) : CT G 2 0 0 yX11_size cX11_size 2 (some .int) [.ref 0, .int 2] mi ml mr dom post := by
  have w := hW.1
  refine enter 0 (by decide) rfl rfl (fun X => ?_)
  refine j_iload_n dX11_size_0 rfl rfl ?_
  refine j_tableOut (tgt := 101) dX11_size_1 (by decide) (by decide) ?_
  refine j_aload_n dX11_size_101 rfl rfl ?_
  refine j_iload_n dX11_size_102 rfl rfl ?_
  refine cV11_361 (d1 := 1) rfl dX11_size_103 (by decide) (Nat.le_of_ble_eq_true rfl) ?_
  refine cx_tS2 hX hT hTn hW hR ?_
  refine j_iret rfl dX11_size_106 ?_
  exact hp
theorem cx_tS3  (hX : XR mr) (hT : TT T) (hTn : mr 0 2 = some T) (hW : WT t) (hR : RX mi T t)  (hp : post (some (.int (nI (t 0 3)))) mi ml mr dom) : CT G 1 0 0 yX11_toldSize cX11_toldSize 2 (some .int) [.ref 0, .int 3] mi ml mr dom post := by
  have w := hW.1
  refine enter 0 (by decide) rfl rfl (fun X => ?_)
  refine j_iload_n dX11_toldSize_0 rfl rfl ?_
  refine j_tableIn (tgt := 76) dX11_toldSize_1 (by decide) (by decide) (by rfl) (by decide) ?_
  refine j_aload_n dX11_toldSize_76 rfl rfl ?_
  refine gR11_20 rfl dX11_toldSize_77 hTn ?_
  refine gI11_201 (kT0 hT) dX11_toldSize_80 ?_
  refine j_iret rfl dX11_toldSize_83 ?_
  rw [hR.houses]
  exact hp
theorem cx_size3  (hX : XR mr) (hT : TT T) (hTn : mr 0 2 = some T) (hW : WT t) (hR : RX mi T t)  (hp : post (some (.int (nI (t 0 3)))) mi ml mr dom) : CT G 2 0 0 yX11_size cX11_size 2 (some .int) [.ref 0, .int 3] mi ml mr dom post := by
  have w := hW.1
  refine enter 0 (by decide) rfl rfl (fun X => ?_)
  refine j_iload_n dX11_size_0 rfl rfl ?_
  refine j_tableOut (tgt := 101) dX11_size_1 (by decide) (by decide) ?_
  refine j_aload_n dX11_size_101 rfl rfl ?_
  refine j_iload_n dX11_size_102 rfl rfl ?_
  refine cV11_361 (d1 := 1) rfl dX11_size_103 (by decide) (Nat.le_of_ble_eq_true rfl) ?_
  refine cx_tS3 hX hT hTn hW hR ?_
  refine j_iret rfl dX11_size_106 ?_
  exact hp
theorem cx_tS4  (hX : XR mr) (hT : TT T) (hTn : mr 0 2 = some T) (hW : WT t) (hR : RX mi T t)  (hp : post (some (.int (nI (t 0 4)))) mi ml mr dom) : CT G 1 0 0 yX11_toldSize cX11_toldSize 2 (some .int) [.ref 0, .int 4] mi ml mr dom post := by
  have w := hW.1
  refine enter 0 (by decide) rfl rfl (fun X => ?_)
  refine j_iload_n dX11_toldSize_0 rfl rfl ?_
  refine j_tableIn (tgt := 84) dX11_toldSize_1 (by decide) (by decide) (by rfl) (by decide) ?_
  refine j_aload_n dX11_toldSize_84 rfl rfl ?_
  refine gR11_20 rfl dX11_toldSize_85 hTn ?_
  refine gR11_89 (kT0 hT) dX11_toldSize_88 (xT_lanes hX hT) ?_
  refine gI11_373 (kT2 hT) dX11_toldSize_91 ?_
  refine j_iret rfl dX11_toldSize_94 ?_
  rw [hR.lanes]
  exact hp
theorem cx_size4  (hX : XR mr) (hT : TT T) (hTn : mr 0 2 = some T) (hW : WT t) (hR : RX mi T t)  (hp : post (some (.int (nI (t 0 4)))) mi ml mr dom) : CT G 2 0 0 yX11_size cX11_size 2 (some .int) [.ref 0, .int 4] mi ml mr dom post := by
  have w := hW.1
  refine enter 0 (by decide) rfl rfl (fun X => ?_)
  refine j_iload_n dX11_size_0 rfl rfl ?_
  refine j_tableOut (tgt := 101) dX11_size_1 (by decide) (by decide) ?_
  refine j_aload_n dX11_size_101 rfl rfl ?_
  refine j_iload_n dX11_size_102 rfl rfl ?_
  refine cV11_361 (d1 := 1) rfl dX11_size_103 (by decide) (Nat.le_of_ble_eq_true rfl) ?_
  refine cx_tS4 hX hT hTn hW hR ?_
  refine j_iret rfl dX11_size_106 ?_
  exact hp
theorem cx_tS5  (hX : XR mr) (hT : TT T) (hTn : mr 0 2 = some T) (hW : WT t) (hR : RX mi T t)  (hp : post (some (.int (nI (t 0 5)))) mi ml mr dom) : CT G 1 0 0 yX11_toldSize cX11_toldSize 2 (some .int) [.ref 0, .int 5] mi ml mr dom post := by
  have w := hW.1
  refine enter 0 (by decide) rfl rfl (fun X => ?_)
  refine j_iload_n dX11_toldSize_0 rfl rfl ?_
  refine j_tableIn (tgt := 95) dX11_toldSize_1 (by decide) (by decide) (by rfl) (by decide) ?_
  refine j_aload_n dX11_toldSize_95 rfl rfl ?_
  refine gR11_20 rfl dX11_toldSize_96 hTn ?_
  refine gI11_102 (kT0 hT) dX11_toldSize_99 ?_
  refine j_iret rfl dX11_toldSize_102 ?_
  rw [hR.people]
  exact hp
theorem cx_size5  (hX : XR mr) (hT : TT T) (hTn : mr 0 2 = some T) (hW : WT t) (hR : RX mi T t)  (hp : post (some (.int (nI (t 0 5)))) mi ml mr dom) : CT G 2 0 0 yX11_size cX11_size 2 (some .int) [.ref 0, .int 5] mi ml mr dom post := by
  have w := hW.1
  refine enter 0 (by decide) rfl rfl (fun X => ?_)
  refine j_iload_n dX11_size_0 rfl rfl ?_
  refine j_tableOut (tgt := 101) dX11_size_1 (by decide) (by decide) ?_
  refine j_aload_n dX11_size_101 rfl rfl ?_
  refine j_iload_n dX11_size_102 rfl rfl ?_
  refine cV11_361 (d1 := 1) rfl dX11_size_103 (by decide) (Nat.le_of_ble_eq_true rfl) ?_
  refine cx_tS5 hX hT hTn hW hR ?_
  refine j_iret rfl dX11_size_106 ?_
  exact hp
theorem cx_tS6  (hX : XR mr) (hT : TT T) (hTn : mr 0 2 = some T) (hW : WT t) (hR : RX mi T t)  (hp : post (some (.int (nI (t 0 6)))) mi ml mr dom) : CT G 1 0 0 yX11_toldSize cX11_toldSize 2 (some .int) [.ref 0, .int 6] mi ml mr dom post := by
  have w := hW.1
  refine enter 0 (by decide) rfl rfl (fun X => ?_)
  refine j_iload_n dX11_toldSize_0 rfl rfl ?_
  refine j_tableIn (tgt := 103) dX11_toldSize_1 (by decide) (by decide) (by rfl) (by decide) ?_
  refine j_aload_n dX11_toldSize_103 rfl rfl ?_
  refine gR11_20 rfl dX11_toldSize_104 hTn ?_
  refine gI11_123 (kT0 hT) dX11_toldSize_107 ?_
  refine j_iret rfl dX11_toldSize_110 ?_
  rw [hR.goods]
  exact hp
theorem cx_size6  (hX : XR mr) (hT : TT T) (hTn : mr 0 2 = some T) (hW : WT t) (hR : RX mi T t)  (hp : post (some (.int (nI (t 0 6)))) mi ml mr dom) : CT G 2 0 0 yX11_size cX11_size 2 (some .int) [.ref 0, .int 6] mi ml mr dom post := by
  have w := hW.1
  refine enter 0 (by decide) rfl rfl (fun X => ?_)
  refine j_iload_n dX11_size_0 rfl rfl ?_
  refine j_tableOut (tgt := 101) dX11_size_1 (by decide) (by decide) ?_
  refine j_aload_n dX11_size_101 rfl rfl ?_
  refine j_iload_n dX11_size_102 rfl rfl ?_
  refine cV11_361 (d1 := 1) rfl dX11_size_103 (by decide) (Nat.le_of_ble_eq_true rfl) ?_
  refine cx_tS6 hX hT hTn hW hR ?_
  refine j_iret rfl dX11_size_106 ?_
  exact hp
theorem cx_tS7  (hX : XR mr) (hT : TT T) (hTn : mr 0 2 = some T) (hW : WT t) (hR : RX mi T t)  (hp : post (some (.int (nI (t 0 7)))) mi ml mr dom) : CT G 1 0 0 yX11_toldSize cX11_toldSize 2 (some .int) [.ref 0, .int 7] mi ml mr dom post := by
  have w := hW.1
  refine enter 0 (by decide) rfl rfl (fun X => ?_)
  refine j_iload_n dX11_toldSize_0 rfl rfl ?_
  refine j_tableIn (tgt := 111) dX11_toldSize_1 (by decide) (by decide) (by rfl) (by decide) ?_
  refine j_aload_n dX11_toldSize_111 rfl rfl ?_
  refine gR11_20 rfl dX11_toldSize_112 hTn ?_
  refine gI11_231 (kT0 hT) dX11_toldSize_115 ?_
  refine j_iret rfl dX11_toldSize_118 ?_
  rw [hR.visits]
  exact hp
theorem cx_size7  (hX : XR mr) (hT : TT T) (hTn : mr 0 2 = some T) (hW : WT t) (hR : RX mi T t)  (hp : post (some (.int (nI (t 0 7)))) mi ml mr dom) : CT G 2 0 0 yX11_size cX11_size 2 (some .int) [.ref 0, .int 7] mi ml mr dom post := by
  have w := hW.1
  refine enter 0 (by decide) rfl rfl (fun X => ?_)
  refine j_iload_n dX11_size_0 rfl rfl ?_
  refine j_tableOut (tgt := 101) dX11_size_1 (by decide) (by decide) ?_
  refine j_aload_n dX11_size_101 rfl rfl ?_
  refine j_iload_n dX11_size_102 rfl rfl ?_
  refine cV11_361 (d1 := 1) rfl dX11_size_103 (by decide) (Nat.le_of_ble_eq_true rfl) ?_
  refine cx_tS7 hX hT hTn hW hR ?_
  refine j_iret rfl dX11_size_106 ?_
  exact hp
theorem cx_tS8  (hX : XR mr) (hT : TT T) (hTn : mr 0 2 = some T) (hW : WT t) (hR : RX mi T t)  (hp : post (some (.int (nI (t 0 8)))) mi ml mr dom) : CT G 1 0 0 yX11_toldSize cX11_toldSize 2 (some .int) [.ref 0, .int 8] mi ml mr dom post := by
  have w := hW.1
  refine enter 0 (by decide) rfl rfl (fun X => ?_)
  refine j_iload_n dX11_toldSize_0 rfl rfl ?_
  refine j_tableIn (tgt := 119) dX11_toldSize_1 (by decide) (by decide) (by rfl) (by decide) ?_
  refine j_aload_n dX11_toldSize_119 rfl rfl ?_
  refine gR11_20 rfl dX11_toldSize_120 hTn ?_
  refine gI11_274 (kT0 hT) dX11_toldSize_123 ?_
  refine j_iret rfl dX11_toldSize_126 ?_
  rw [hR.prints]
  exact hp
theorem cx_size8  (hX : XR mr) (hT : TT T) (hTn : mr 0 2 = some T) (hW : WT t) (hR : RX mi T t)  (hp : post (some (.int (nI (t 0 8)))) mi ml mr dom) : CT G 2 0 0 yX11_size cX11_size 2 (some .int) [.ref 0, .int 8] mi ml mr dom post := by
  have w := hW.1
  refine enter 0 (by decide) rfl rfl (fun X => ?_)
  refine j_iload_n dX11_size_0 rfl rfl ?_
  refine j_tableOut (tgt := 101) dX11_size_1 (by decide) (by decide) ?_
  refine j_aload_n dX11_size_101 rfl rfl ?_
  refine j_iload_n dX11_size_102 rfl rfl ?_
  refine cV11_361 (d1 := 1) rfl dX11_size_103 (by decide) (Nat.le_of_ble_eq_true rfl) ?_
  refine cx_tS8 hX hT hTn hW hR ?_
  refine j_iret rfl dX11_size_106 ?_
  exact hp
theorem cx_tSB {x : Int32} (hX : XR mr) (hT : TT T) (hTn : mr 0 2 = some T) (hW : WT t) (hR : RX mi T t) (hx : ∀ k, k < 14 → ¬ x = nI k) (hp : post (some (.int (-1))) mi ml mr dom) : CT G 1 0 0 yX11_toldSize cX11_toldSize 2 (some .int) [.ref 0, .int x] mi ml mr dom post := by
  have w := hW.1
  refine enter 0 (by decide) rfl rfl (fun X => ?_)
  refine j_iload_n dX11_toldSize_0 rfl rfl ?_
  refine j_tableOut (tgt := 127) dX11_toldSize_1 (sw_out9 (hx 0 (by omega)) (hx 1 (by omega)) (hx 2 (by omega)) (hx 3 (by omega)) (hx 4 (by omega)) (hx 5 (by omega)) (hx 6 (by omega)) (hx 7 (by omega)) (hx 8 (by omega))) (by decide) ?_
  refine j_iconst (v := -1) dX11_toldSize_127 (by decide) ?_
  refine j_iret rfl dX11_toldSize_128 ?_
  exact hp
theorem cx_sizeB {x : Int32} (hX : XR mr) (hT : TT T) (hTn : mr 0 2 = some T) (hW : WT t) (hR : RX mi T t) (hx : ∀ k, k < 14 → ¬ x = nI k) (hp : post (some (.int (-1))) mi ml mr dom) : CT G 2 0 0 yX11_size cX11_size 2 (some .int) [.ref 0, .int x] mi ml mr dom post := by
  have w := hW.1
  refine enter 0 (by decide) rfl rfl (fun X => ?_)
  refine j_iload_n dX11_size_0 rfl rfl ?_
  refine j_tableOut (tgt := 101) dX11_size_1 (sw_out5_9 (hx 9 (by omega)) (hx 10 (by omega)) (hx 11 (by omega)) (hx 12 (by omega)) (hx 13 (by omega))) (by decide) ?_
  refine j_aload_n dX11_size_101 rfl rfl ?_
  refine j_iload_n dX11_size_102 rfl rfl ?_
  refine cV11_361 (d1 := 1) rfl dX11_size_103 (by decide) (Nat.le_of_ble_eq_true rfl) ?_
  refine cx_tSB hX hT hTn hW hR hx ?_
  refine j_iret rfl dX11_size_106 ?_
  exact hp
theorem cx_size9N  (hX : XR mr) (hT : TT T) (hTn : mr 0 2 = some T) (hW : WT t) (hR : RX mi T t) (h0 : mi T 0 = 0) (hp : post (some (.int 0)) mi ml mr dom) : CT G 2 0 0 yX11_size cX11_size 2 (some .int) [.ref 0, .int 9] mi ml mr dom post := by
  have w := hW.1
  refine enter 0 (by decide) rfl rfl (fun X => ?_)
  refine j_iload_n dX11_size_0 rfl rfl ?_
  refine j_tableIn (tgt := 36) dX11_size_1 (by decide) (by decide) (by rfl) (by decide) ?_
  refine j_aload_n dX11_size_36 rfl rfl ?_
  refine gR11_20 rfl dX11_size_37 hTn ?_
  refine gI11_178 (kT0 hT) dX11_size_40 ?_
  refine j_if_eq (tgt := 56) dX11_size_43 (by decide) (fun _ => ?_) (fun h43 => absurd h0 h43)
  refine j_iconst (v := 0) dX11_size_56 (by decide) ?_
  refine j_iret rfl dX11_size_57 ?_
  exact hp
theorem cx_size9  (hX : XR mr) (hT : TT T) (hTn : mr 0 2 = some T) (hW : WT t) (hR : RX mi T t) (h0 : mi T 0 = 1) (hp : post (some (.int (mi 9 11))) mi ml mr dom) : CT G 2 0 0 yX11_size cX11_size 2 (some .int) [.ref 0, .int 9] mi ml mr dom post := by
  have w := hW.1
  refine enter 0 (by decide) rfl rfl (fun X => ?_)
  refine j_iload_n dX11_size_0 rfl rfl ?_
  refine j_tableIn (tgt := 36) dX11_size_1 (by decide) (by decide) (by rfl) (by decide) ?_
  refine j_aload_n dX11_size_36 rfl rfl ?_
  refine gR11_20 rfl dX11_size_37 hTn ?_
  refine gI11_178 (kT0 hT) dX11_size_40 ?_
  refine j_if_eq (tgt := 56) dX11_size_43 (by decide) (fun h43 => absurd h43 (by rw [h0]; decide)) (fun _ => ?_)
  refine j_aload_n dX11_size_46 rfl rfl ?_
  refine gR11_37 rfl dX11_size_47 (x_present hX) ?_
  refine cV11_321 (d1 := 1) rfl dX11_size_50 (by decide) (Nat.le_of_ble_eq_true rfl) ?_
  refine tX4_hour hX ?_
  refine j_goto (tgt := 57) dX11_size_53 (by decide) ?_
  refine j_iret rfl dX11_size_57 ?_
  exact hp
theorem cx_size10N  (hX : XR mr) (hT : TT T) (hTn : mr 0 2 = some T) (hW : WT t) (hR : RX mi T t) (h0 : mi T 0 = 0) (hp : post (some (.int 0)) mi ml mr dom) : CT G 2 0 0 yX11_size cX11_size 2 (some .int) [.ref 0, .int 10] mi ml mr dom post := by
  have w := hW.1
  refine enter 0 (by decide) rfl rfl (fun X => ?_)
  refine j_iload_n dX11_size_0 rfl rfl ?_
  refine j_tableIn (tgt := 58) dX11_size_1 (by decide) (by decide) (by rfl) (by decide) ?_
  refine j_aload_n dX11_size_58 rfl rfl ?_
  refine gR11_20 rfl dX11_size_59 hTn ?_
  refine gI11_178 (kT0 hT) dX11_size_62 ?_
  refine j_if_eq (tgt := 78) dX11_size_65 (by decide) (fun _ => ?_) (fun h65 => absurd h0 h65)
  refine j_iconst (v := 0) dX11_size_78 (by decide) ?_
  refine j_iret rfl dX11_size_79 ?_
  exact hp
theorem cx_size10  (hX : XR mr) (hT : TT T) (hTn : mr 0 2 = some T) (hW : WT t) (hR : RX mi T t) (h0 : mi T 0 = 1) (hp : post (some (.int (mi 9 12))) mi ml mr dom) : CT G 2 0 0 yX11_size cX11_size 2 (some .int) [.ref 0, .int 10] mi ml mr dom post := by
  have w := hW.1
  refine enter 0 (by decide) rfl rfl (fun X => ?_)
  refine j_iload_n dX11_size_0 rfl rfl ?_
  refine j_tableIn (tgt := 58) dX11_size_1 (by decide) (by decide) (by rfl) (by decide) ?_
  refine j_aload_n dX11_size_58 rfl rfl ?_
  refine gR11_20 rfl dX11_size_59 hTn ?_
  refine gI11_178 (kT0 hT) dX11_size_62 ?_
  refine j_if_eq (tgt := 78) dX11_size_65 (by decide) (fun h65 => absurd h65 (by rw [h0]; decide)) (fun _ => ?_)
  refine j_aload_n dX11_size_68 rfl rfl ?_
  refine gR11_37 rfl dX11_size_69 (x_present hX) ?_
  refine cV11_355 (d1 := 1) rfl dX11_size_72 (by decide) (Nat.le_of_ble_eq_true rfl) ?_
  refine tX4_dayNumber hX ?_
  refine j_goto (tgt := 79) dX11_size_75 (by decide) ?_
  refine j_iret rfl dX11_size_79 ?_
  exact hp
theorem cx_size11  (hX : XR mr) (hT : TT T) (hTn : mr 0 2 = some T) (hW : WT t) (hR : RX mi T t)  (hp : post (some (.int (mi 8 0))) mi ml mr dom) : CT G 1 0 0 yX11_size cX11_size 2 (some .int) [.ref 0, .int 11] mi ml mr dom post := by
  have w := hW.1
  refine enter 0 (by decide) rfl rfl (fun X => ?_)
  refine j_iload_n dX11_size_0 rfl rfl ?_
  refine j_tableIn (tgt := 80) dX11_size_1 (by decide) (by decide) (by rfl) (by decide) ?_
  refine j_aload_n dX11_size_80 rfl rfl ?_
  refine gR11_37 rfl dX11_size_81 (x_present hX) ?_
  refine gI11_358 rfl dX11_size_84 ?_
  refine j_iret rfl dX11_size_87 ?_
  exact hp
theorem cx_size12  (hX : XR mr) (hT : TT T) (hTn : mr 0 2 = some T) (hW : WT t) (hR : RX mi T t)  (hp : post (some (.int (mi 8 1))) mi ml mr dom) : CT G 1 0 0 yX11_size cX11_size 2 (some .int) [.ref 0, .int 12] mi ml mr dom post := by
  have w := hW.1
  refine enter 0 (by decide) rfl rfl (fun X => ?_)
  refine j_iload_n dX11_size_0 rfl rfl ?_
  refine j_tableIn (tgt := 88) dX11_size_1 (by decide) (by decide) (by rfl) (by decide) ?_
  refine j_aload_n dX11_size_88 rfl rfl ?_
  refine gR11_37 rfl dX11_size_89 (x_present hX) ?_
  refine gI11_343 rfl dX11_size_92 ?_
  refine j_iret rfl dX11_size_95 ?_
  exact hp
theorem cx_size13  (hX : XR mr) (hT : TT T) (hTn : mr 0 2 = some T) (hW : WT t) (hR : RX mi T t)  (hp : post (some (.int (mi 0 1))) mi ml mr dom) : CT G 1 0 0 yX11_size cX11_size 2 (some .int) [.ref 0, .int 13] mi ml mr dom post := by
  have w := hW.1
  refine enter 0 (by decide) rfl rfl (fun X => ?_)
  refine j_iload_n dX11_size_0 rfl rfl ?_
  refine j_tableIn (tgt := 96) dX11_size_1 (by decide) (by decide) (by rfl) (by decide) ?_
  refine j_aload_n dX11_size_96 rfl rfl ?_
  refine gI11_13 rfl dX11_size_97 ?_
  refine j_iret rfl dX11_size_100 ?_
  exact hp
end C11e
