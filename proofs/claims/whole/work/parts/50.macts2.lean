/-! the reference: acts -/
/-- an act is remembered -/
def RB2 (a : Nat) (mi m : MI) : Prop := (∀ z, z ≠ 1000 → z ≠ 1003 → m z = mi z) ∧ (∀ j, j ≠ 19 → m 1000 j = mi 1000 j) ∧ m 1000 19 = nI (min a 15 + 1) ∧ (∀ j, j < 13 → m 1003 (13 * min a 15 + j) = mi 1002 j) ∧ ∀ j, j < 13 * min a 15 → m 1003 j = mi 1003 (j + 13 * (a - 15))
section M13e
variable {G : GG} {post : PT} {mi : MI} {ml : ML} {mr : MR} {dom : List Nat} {M : Nat} {t : TW} {v : Nat → Nat}
theorem m_rememb {a : Nat} (hX : XM mr) (ha : a ≤ 16) (hac : mi 1000 19 = nI a) (hp : ∀ m, RB2 a mi m → post none m ml mr dom) : CT G 1 0 0 yX13_remembers cX13_remembers 2 none [.ref 1000] mi ml mr dom post := by
  refine m_remembers hX ha hac (fun h m a1 a2 a3 a4 a5 => hp m ?_) (fun h m a1 a2 a3 a4 a5 => hp m ?_)
  · unfold RB2
    rw [Nat.min_eq_left (by omega), show a - 15 = 0 by omega]
    exact ⟨a1, a2, a3, a4, a5⟩
  · subst h
    exact ⟨a1, a2, a3, a4, a5⟩
theorem m_mustGo {g : Nat} (hX : XM mr) (hM : MM M) (hY : XT mr M) (hTn : mr 1000 3 = some M) (hg : GB t) (hW : WT t) (hR : RM mi M t) (hV : VM mi t v) (h1 : g < t 0 6) (hp : post (some (.int (nI (bN (mgo t v g))))) mi ml mr dom) : CT G 1 0 0 yX13_mustGo cX13_mustGo 2 (some .boolean) [.ref 1000, .int (nI g)] mi ml mr dom post := by
  have w := hW.1
  refine enter 0 (by decide) rfl rfl (fun X => ?_)
  refine j_aload_n dX13_mustGo_0 rfl rfl ?_
  refine gR13_17 rfl dX13_mustGo_1 (x1002 hX) ?_
  refine j_bipush (v := nI 6) dX13_mustGo_4 (by decide) ?_
  refine j_iload_n dX13_mustGo_6 rfl rfl ?_
  refine j_iadd dX13_mustGo_7 ?_
  rw [nI_add]
  refine j_iald rfl (inT (show ln 1002 = 13 from rfl) (by show 6 + g < 13; omega) (by decide)) dX13_mustGo_8 ?_
  rw [nI_clamp (by omega), (hV.2.1 g (by show g < t 0 6; omega)).1]
  refine j_aload_n dX13_mustGo_9 rfl rfl ?_
  refine gR13_335 rfl dX13_mustGo_10 hTn ?_
  refine gR13_300 (kM0 hM) dX13_mustGo_13 (xM10 hY) ?_
  refine j_iload_n dX13_mustGo_16 rfl rfl ?_
  refine j_iald (kM10 hM) (inT (lM10 hM) (by show g < 5; omega) (by decide)) dX13_mustGo_17 ?_
  rw [nI_clamp (by omega), rM10 hR (by show g < 5; omega)]
  refine j_icmp_eq (tgt := 25) dX13_mustGo_18 (by decide) (fun h18 => ?_) (fun h18 => ?_)
  all_goals rw [nI_eq (by have := (hV.2.1 g (by show g < t 0 6; omega)).2; have := hg 0 3; omega) (by have := hg 10 g; omega)] at h18
  · refine j_iconst (v := nI 0) dX13_mustGo_25 (by decide) ?_
    refine j_zret rfl (by decide) dX13_mustGo_26 ?_
    unfold mgo at hp
    first
      | (rw [decide_eq_false (p := v (6 + g) ≠ t 10 g) (by omega)] at hp; exact hp)
      | (rw [decide_eq_true (p := v (6 + g) ≠ t 10 g) (by omega)] at hp; exact hp)
  · refine j_iconst (v := nI 1) dX13_mustGo_21 (by decide) ?_
    refine j_goto (tgt := 26) dX13_mustGo_22 (by decide) ?_
    refine j_zret rfl (by decide) dX13_mustGo_26 ?_
    unfold mgo at hp
    first
      | (rw [decide_eq_false (p := v (6 + g) ≠ t 10 g) (by omega)] at hp; exact hp)
      | (rw [decide_eq_true (p := v (6 + g) ≠ t 10 g) (by omega)] at hp; exact hp)
theorem m_isPassing {g h : Nat} (hX : XM mr) (hM : MM M) (hY : XT mr M) (hTn : mr 1000 3 = some M) (hg : GB t) (hW : WT t) (hR : RM mi M t) (hL : 60 ≤ t 0 2) (h1 : g < t 0 6) (h2 : h < t 0 3) (hp : post (some (.int (nI (bN (decide (t 8 g ≤ t 0 2 - t 1 h)))))) mi ml mr dom) : CT G 2 0 0 yX13_isPassing cX13_isPassing 3 (some .boolean) [.ref 1000, .int (nI g), .int (nI h)] mi ml mr dom post := by
  have w := hW.1
  refine enter 0 (by decide) rfl rfl (fun X => ?_)
  refine j_aload_n dX13_isPassing_0 rfl rfl ?_
  refine gR13_335 rfl dX13_isPassing_1 hTn ?_
  refine gR13_296 (kM0 hM) dX13_isPassing_4 (xM8 hY) ?_
  refine j_iload_n dX13_isPassing_7 rfl rfl ?_
  refine j_iald (kM8 hM) (inT (lM8 hM) (by show g < 5; omega) (by decide)) dX13_isPassing_8 ?_
  rw [nI_clamp (by omega), rM8 hR (by show g < 5; omega)]
  refine j_aload_n dX13_isPassing_9 rfl rfl ?_
  refine gR13_335 rfl dX13_isPassing_10 hTn ?_
  refine j_iload_n dX13_isPassing_13 rfl rfl ?_
  refine cV13_346 (d1 := 1) (kM0 hM) dX13_isPassing_14 (by decide) (Nat.le_of_ble_eq_true rfl) ?_
  refine m_gap hM hY hg hW hR hL (by omega) ?_
  refine j_icmp_gt (tgt := 24) dX13_isPassing_17 (by decide) (fun h17 => ?_) (fun h17 => ?_)
  all_goals rw [nI_ltI (by have := hg 0 2; omega) (by have := hg 8 g; omega)] at h17
  · refine j_iconst (v := nI 0) dX13_isPassing_24 (by decide) ?_
    refine j_zret rfl (by decide) dX13_isPassing_25 ?_
    first
      | (rw [decide_eq_true (by omega)] at hp; exact hp)
      | (rw [decide_eq_false (by omega)] at hp; exact hp)
  · refine j_iconst (v := nI 1) dX13_isPassing_20 (by decide) ?_
    refine j_goto (tgt := 25) dX13_isPassing_21 (by decide) ?_
    refine j_zret rfl (by decide) dX13_isPassing_25 ?_
    first
      | (rw [decide_eq_true (by omega)] at hp; exact hp)
      | (rw [decide_eq_false (by omega)] at hp; exact hp)
theorem mx_goB1 {x y : Int32} (hX : XM mr) (hM : MM M) (hY : XT mr M) (hTn : mr 1000 3 = some M) (hg : GB t) (hW : WT t) (hR : RM mi M t) (hb : bad x (t 0 5)) (hp : post (some (.int (-1))) (rf mi (nI 1)) ml mr dom) : CT G 3 0 0 yX13_go cX13_go 4 (some .int) [.ref 1000, .int x, .int y] mi ml mr dom post := by
  have w := hW.1
  have hge := hM.ge
  refine enter 1 (by decide) rfl rfl (fun X => ?_)
  refine j_aload_n dX13_go_0 rfl rfl ?_
  refine j_iconst (v := nI 0) dX13_go_1 (by decide) ?_
  refine pI13_51 rfl dX13_go_2 ?_
  obtain ⟨m1, e1⟩ : ∃ m, m = up mi 1000 0 (nI 0) := ⟨_, rfl⟩
  rw [← e1]
  have hR1 : RM m1 M t := RM_lo hM (fun n hn => by rw [e1, up_off _ _ (by omega)]) hR
  refine j_aload_n dX13_go_5 rfl rfl ?_
  refine j_iload_n dX13_go_6 rfl rfl ?_
  refine cV13_355 (d1 := 1) rfl dX13_go_7 (by decide) (Nat.le_of_ble_eq_true rfl) ?_
  refine m_isPersonB hX hM hY hTn hg hW hR1 hb ?_
  refine j_if_eq (tgt := 21) dX13_go_10 (by decide) (fun h10 => ?_) (fun h10 => absurd (by decide) h10)
  refine j_aload_n dX13_go_21 rfl rfl ?_
  refine j_iconst (v := nI 1) dX13_go_22 (by decide) ?_
  refine cV13_57 (d1 := 1) rfl dX13_go_23 (by decide) (Nat.le_of_ble_eq_true rfl) ?_
  refine m_refused ?_
  refine j_iret rfl dX13_go_26 ?_
  rw [e1]; exact hp
theorem mx_goB2 {p : Nat} {y : Int32} (hX : XM mr) (hM : MM M) (hY : XT mr M) (hTn : mr 1000 3 = some M) (hg : GB t) (hW : WT t) (hR : RM mi M t) (h1 : p < t 0 5) (hb : bad y (t 0 3)) (hp : post (some (.int (-1))) (rf mi (nI 1)) ml mr dom) : CT G 3 0 0 yX13_go cX13_go 4 (some .int) [.ref 1000, .int (nI p), .int y] mi ml mr dom post := by
  have w := hW.1
  have hge := hM.ge
  refine enter 1 (by decide) rfl rfl (fun X => ?_)
  refine j_aload_n dX13_go_0 rfl rfl ?_
  refine j_iconst (v := nI 0) dX13_go_1 (by decide) ?_
  refine pI13_51 rfl dX13_go_2 ?_
  obtain ⟨m1, e1⟩ : ∃ m, m = up mi 1000 0 (nI 0) := ⟨_, rfl⟩
  rw [← e1]
  have hR1 : RM m1 M t := RM_lo hM (fun n hn => by rw [e1, up_off _ _ (by omega)]) hR
  refine j_aload_n dX13_go_5 rfl rfl ?_
  refine j_iload_n dX13_go_6 rfl rfl ?_
  refine cV13_355 (d1 := 1) rfl dX13_go_7 (by decide) (Nat.le_of_ble_eq_true rfl) ?_
  refine m_isPersonG hX hM hY hTn hg hW hR1 (by omega) ?_
  refine j_if_eq (tgt := 21) dX13_go_10 (by decide) (fun h10 => absurd h10 (by decide)) (fun h10 => ?_)
  refine j_aload_n dX13_go_13 rfl rfl ?_
  refine j_iload_n dX13_go_14 rfl rfl ?_
  refine cV13_352 (d1 := 1) rfl dX13_go_15 (by decide) (Nat.le_of_ble_eq_true rfl) ?_
  refine m_isHouseB hX hM hY hTn hg hW hR1 hb ?_
  refine j_if_ne (tgt := 27) dX13_go_18 (by decide) (fun h18 => absurd (by decide) h18) (fun h18 => ?_)
  refine j_aload_n dX13_go_21 rfl rfl ?_
  refine j_iconst (v := nI 1) dX13_go_22 (by decide) ?_
  refine cV13_57 (d1 := 1) rfl dX13_go_23 (by decide) (Nat.le_of_ble_eq_true rfl) ?_
  refine m_refused ?_
  refine j_iret rfl dX13_go_26 ?_
  rw [e1]; exact hp
theorem mx_goS {p h : Nat} (hX : XM mr) (hM : MM M) (hY : XT mr M) (hTn : mr 1000 3 = some M) (hg : GB t) (hW : WT t) (hR : RM mi M t) (hV : VM mi t v) (h1 : p < t 0 5) (h2 : h < t 0 3) (hno : t 3 (6 * v p + h) = 0 ∨ 99999 ≤ t 3 (6 * v p + h)) (hp : post (some (.int (-1))) (rf mi (nI 5)) ml mr dom) : CT G 3 0 0 yX13_go cX13_go 4 (some .int) [.ref 1000, .int (nI p), .int (nI h)] mi ml mr dom post := by
  have w := hW.1
  have hge := hM.ge
  refine enter 1 (by decide) rfl rfl (fun X => ?_)
  refine j_aload_n dX13_go_0 rfl rfl ?_
  refine j_iconst (v := nI 0) dX13_go_1 (by decide) ?_
  refine pI13_51 rfl dX13_go_2 ?_
  obtain ⟨m1, e1⟩ : ∃ m, m = up mi 1000 0 (nI 0) := ⟨_, rfl⟩
  rw [← e1]
  have hR1 : RM m1 M t := RM_lo hM (fun n hn => by rw [e1, up_off _ _ (by omega)]) hR
  have hV1 : VM m1 t v := VM_off (by rw [e1, up_off _ _ (by decide)]) hV
  refine j_aload_n dX13_go_5 rfl rfl ?_
  refine j_iload_n dX13_go_6 rfl rfl ?_
  refine cV13_355 (d1 := 1) rfl dX13_go_7 (by decide) (Nat.le_of_ble_eq_true rfl) ?_
  refine m_isPersonG hX hM hY hTn hg hW hR1 (by omega) ?_
  refine j_if_eq (tgt := 21) dX13_go_10 (by decide) (fun h10 => absurd h10 (by decide)) (fun h10 => ?_)
  refine j_aload_n dX13_go_13 rfl rfl ?_
  refine j_iload_n dX13_go_14 rfl rfl ?_
  refine cV13_352 (d1 := 1) rfl dX13_go_15 (by decide) (Nat.le_of_ble_eq_true rfl) ?_
  refine m_isHouseG hX hM hY hTn hg hW hR1 (by omega) ?_
  refine j_if_ne (tgt := 27) dX13_go_18 (by decide) (fun h18 => ?_) (fun h18 => absurd h18 (by decide))
  refine j_aload_n dX13_go_27 rfl rfl ?_
  refine gR13_335 rfl dX13_go_28 hTn ?_
  refine j_aload_n dX13_go_31 rfl rfl ?_
  refine gR13_17 rfl dX13_go_32 (x1002 hX) ?_
  refine j_iconst (v := nI 0) dX13_go_35 (by decide) ?_
  refine j_iload_n dX13_go_36 rfl rfl ?_
  refine j_iadd dX13_go_37 ?_
  rw [show nI 0 + nI p = nI p by rw [nI_add, Nat.zero_add]]
  refine j_iald rfl (inT (show ln 1002 = 13 from rfl) (by show p < 13; omega) (by decide)) dX13_go_38 ?_
  rw [nI_clamp (by omega), (hV1.1 p (by show p < t 0 5; omega)).1]
  refine j_iload_n dX13_go_39 rfl rfl ?_
  refine cV13_410 (d1 := 1) (kM0 hM) dX13_go_40 (by decide) (Nat.le_of_ble_eq_true rfl) ?_
  refine m_far hM hY hg hW hR1 (by have := (hV1.1 p (by show p < t 0 5; omega)).2; have := hg 0 3; omega) (by omega) ?_
  refine j_istore_n (lv2 := [_, _, _, _]) dX13_go_43 rfl (by decide) rfl rfl ?_
  refine j_iload_n dX13_go_44 rfl rfl ?_
  refine j_if_eq (tgt := 55) dX13_go_45 (by decide) (fun h45 => ?_) (fun h45 => ?_)
  all_goals rw [show (0 : Int32) = nI 0 from rfl, nI_eq (by have := hg 3 (6 * (v p) + h); omega) (by decide)] at h45
  · refine j_aload_n dX13_go_55 rfl rfl ?_
    refine j_iconst (v := nI 5) dX13_go_56 (by decide) ?_
    refine cV13_57 (d1 := 1) rfl dX13_go_57 (by decide) (Nat.le_of_ble_eq_true rfl) ?_
    refine m_refused ?_
    refine j_iret rfl dX13_go_60 ?_
    rw [e1]; exact hp
  · refine j_iload_n dX13_go_48 rfl rfl ?_
    refine j_ldcw wd1913 dX13_go_49 ?_
    rw [show (99999 : Int32) = nI 99999 from rfl]
    refine j_icmp_lt (tgt := 61) dX13_go_52 (by decide) (fun h52 => ?_) (fun h52 => ?_)
    all_goals rw [nI_ltI (by have := hg 3 (6 * (v p) + h); omega) (by omega)] at h52
    · exfalso; omega
    · refine j_aload_n dX13_go_55 rfl rfl ?_
      refine j_iconst (v := nI 5) dX13_go_56 (by decide) ?_
      refine cV13_57 (d1 := 1) rfl dX13_go_57 (by decide) (Nat.le_of_ble_eq_true rfl) ?_
      refine m_refused ?_
      refine j_iret rfl dX13_go_60 ?_
      rw [e1]; exact hp
theorem mx_go {p h a : Nat} (hX : XM mr) (hM : MM M) (hY : XT mr M) (hTn : mr 1000 3 = some M) (hg : GB t) (hW : WT t) (hR : RM mi M t) (hV : VM mi t v) (h1 : p < t 0 5) (h2 : h < t 0 3) (hlt : t 3 (6 * v p + h) < 99999) (hne : t 3 (6 * v p + h) ≠ 0) (h_acts : mi 1000 19 = nI a) (ha : a ≤ 16) (hp : ∀ m, RB2 a (up mi 1000 0 (nI 0)) m → post (some (.int (nI (t 3 (6 * v p + h))))) (up (up (up m 1002 p (nI h)) 1000 1 0) 1000 2 (-1)) ml mr dom) : CT G 3 0 0 yX13_go cX13_go 4 (some .int) [.ref 1000, .int (nI p), .int (nI h)] mi ml mr dom post := by
  have w := hW.1
  have hge := hM.ge
  refine enter 1 (by decide) rfl rfl (fun X => ?_)
  refine j_aload_n dX13_go_0 rfl rfl ?_
  refine j_iconst (v := nI 0) dX13_go_1 (by decide) ?_
  refine pI13_51 rfl dX13_go_2 ?_
  obtain ⟨m1, e1⟩ : ∃ m, m = up mi 1000 0 (nI 0) := ⟨_, rfl⟩
  rw [← e1]
  have hR1 : RM m1 M t := RM_lo hM (fun n hn => by rw [e1, up_off _ _ (by omega)]) hR
  have hV1 : VM m1 t v := VM_off (by rw [e1, up_off _ _ (by decide)]) hV
  refine j_aload_n dX13_go_5 rfl rfl ?_
  refine j_iload_n dX13_go_6 rfl rfl ?_
  refine cV13_355 (d1 := 1) rfl dX13_go_7 (by decide) (Nat.le_of_ble_eq_true rfl) ?_
  refine m_isPersonG hX hM hY hTn hg hW hR1 (by omega) ?_
  refine j_if_eq (tgt := 21) dX13_go_10 (by decide) (fun h10 => absurd h10 (by decide)) (fun h10 => ?_)
  refine j_aload_n dX13_go_13 rfl rfl ?_
  refine j_iload_n dX13_go_14 rfl rfl ?_
  refine cV13_352 (d1 := 1) rfl dX13_go_15 (by decide) (Nat.le_of_ble_eq_true rfl) ?_
  refine m_isHouseG hX hM hY hTn hg hW hR1 (by omega) ?_
  refine j_if_ne (tgt := 27) dX13_go_18 (by decide) (fun h18 => ?_) (fun h18 => absurd h18 (by decide))
  refine j_aload_n dX13_go_27 rfl rfl ?_
  refine gR13_335 rfl dX13_go_28 hTn ?_
  refine j_aload_n dX13_go_31 rfl rfl ?_
  refine gR13_17 rfl dX13_go_32 (x1002 hX) ?_
  refine j_iconst (v := nI 0) dX13_go_35 (by decide) ?_
  refine j_iload_n dX13_go_36 rfl rfl ?_
  refine j_iadd dX13_go_37 ?_
  rw [show nI 0 + nI p = nI p by rw [nI_add, Nat.zero_add]]
  refine j_iald rfl (inT (show ln 1002 = 13 from rfl) (by show p < 13; omega) (by decide)) dX13_go_38 ?_
  rw [nI_clamp (by omega), (hV1.1 p (by show p < t 0 5; omega)).1]
  refine j_iload_n dX13_go_39 rfl rfl ?_
  refine cV13_410 (d1 := 1) (kM0 hM) dX13_go_40 (by decide) (Nat.le_of_ble_eq_true rfl) ?_
  refine m_far hM hY hg hW hR1 (by have := (hV1.1 p (by show p < t 0 5; omega)).2; have := hg 0 3; omega) (by omega) ?_
  refine j_istore_n (lv2 := [_, _, _, _]) dX13_go_43 rfl (by decide) rfl rfl ?_
  refine j_iload_n dX13_go_44 rfl rfl ?_
  refine j_if_eq (tgt := 55) dX13_go_45 (by decide) (fun h45 => by exfalso; rw [show (0 : Int32) = nI 0 from rfl, nI_eq (by have := hg 3 (6 * (v p) + h); omega) (by decide)] at h45; have := hg 3 (6 * (v p) + h); omega) (fun h45 => ?_)
  refine j_iload_n dX13_go_48 rfl rfl ?_
  refine j_ldcw wd1913 dX13_go_49 ?_
  rw [show (99999 : Int32) = nI 99999 from rfl]
  refine j_icmp_lt (tgt := 61) dX13_go_52 (by decide) (fun h52 => ?_) (fun h52 => by exfalso; rw [nI_ltI (by have := hg 3 (6 * (v p) + h); omega) (by omega)] at h52; have := hg 3 (6 * (v p) + h); omega)
  refine j_aload_n dX13_go_61 rfl rfl ?_
  refine cV13_495 (d1 := 1) rfl dX13_go_62 (by decide) (Nat.le_of_ble_eq_true rfl) ?_
  refine m_rememb hX ha (by rw [e1, up_ne _ _ (by decide)]; exact h_acts) (fun m2 hm2 => ?_)
  refine j_aload_n dX13_go_65 rfl rfl ?_
  refine gR13_17 rfl dX13_go_66 (x1002 hX) ?_
  refine j_iconst (v := nI 0) dX13_go_69 (by decide) ?_
  refine j_iload_n dX13_go_70 rfl rfl ?_
  refine j_iadd dX13_go_71 ?_
  rw [show nI 0 + nI p = nI p by rw [nI_add, Nat.zero_add]]
  refine j_iload_n dX13_go_72 rfl rfl ?_
  refine j_iast rfl (inT (show ln 1002 = 13 from rfl) (by show p < 13; omega) (by decide)) dX13_go_73 ?_
  rw [nI_clamp (by omega)]
  refine j_aload_n dX13_go_74 rfl rfl ?_
  refine j_iload_n dX13_go_75 rfl rfl ?_
  refine cV13_61 (d1 := 1) rfl dX13_go_76 (by decide) (Nat.le_of_ble_eq_true rfl) ?_
  refine m_fair ?_
  refine j_iret rfl dX13_go_79 ?_
  exact hp m2 (e1 ▸ hm2)
theorem mx_handNu {x y : Int32} (hTn : mr 1000 3 = none)  (hp : post (some (.int 0)) (rf mi (nI 1)) ml mr dom) : CT G 3 0 0 yX13_hand cX13_hand 4 (some .boolean) [.ref 1000, .int x, .int y] mi ml mr dom post := by
  refine enter 1 (by decide) rfl rfl (fun X => ?_)
  refine j_aload_n dX13_hand_0 rfl rfl ?_
  refine j_iconst (v := nI 0) dX13_hand_1 (by decide) ?_
  refine pI13_51 rfl dX13_hand_2 ?_
  obtain ⟨m1, e1⟩ : ∃ m, m = up mi 1000 0 (nI 0) := ⟨_, rfl⟩
  rw [← e1]
  refine j_aload_n dX13_hand_5 rfl rfl ?_
  refine j_iload_n dX13_hand_6 rfl rfl ?_
  refine cV13_361 (d1 := 1) rfl dX13_hand_7 (by decide) (Nat.le_of_ble_eq_true rfl) ?_
  refine m_isGoodN hTn ?_
  refine j_if_eq (tgt := 21) dX13_hand_10 (by decide) (fun h10 => ?_) (fun h10 => absurd (by decide) h10)
  refine j_aload_n dX13_hand_21 rfl rfl ?_
  refine j_iconst (v := nI 1) dX13_hand_22 (by decide) ?_
  refine cV13_498 (d1 := 2) rfl dX13_hand_23 (by decide) (Nat.le_of_ble_eq_true rfl) ?_
  refine m_denied ?_
  refine j_zret rfl (by decide) dX13_hand_26 ?_
  rw [e1]; exact hp
theorem mx_handB1 {x y : Int32} (hX : XM mr) (hM : MM M) (hY : XT mr M) (hTn : mr 1000 3 = some M) (hg : GB t) (hW : WT t) (hR : RM mi M t) (hb : bad x (t 0 6)) (hp : post (some (.int 0)) (rf mi (nI 1)) ml mr dom) : CT G 3 0 0 yX13_hand cX13_hand 4 (some .boolean) [.ref 1000, .int x, .int y] mi ml mr dom post := by
  have w := hW.1
  have hge := hM.ge
  refine enter 1 (by decide) rfl rfl (fun X => ?_)
  refine j_aload_n dX13_hand_0 rfl rfl ?_
  refine j_iconst (v := nI 0) dX13_hand_1 (by decide) ?_
  refine pI13_51 rfl dX13_hand_2 ?_
  obtain ⟨m1, e1⟩ : ∃ m, m = up mi 1000 0 (nI 0) := ⟨_, rfl⟩
  rw [← e1]
  have hR1 : RM m1 M t := RM_lo hM (fun n hn => by rw [e1, up_off _ _ (by omega)]) hR
  refine j_aload_n dX13_hand_5 rfl rfl ?_
  refine j_iload_n dX13_hand_6 rfl rfl ?_
  refine cV13_361 (d1 := 1) rfl dX13_hand_7 (by decide) (Nat.le_of_ble_eq_true rfl) ?_
  refine m_isGoodB hX hM hY hTn hg hW hR1 hb ?_
  refine j_if_eq (tgt := 21) dX13_hand_10 (by decide) (fun h10 => ?_) (fun h10 => absurd (by decide) h10)
  refine j_aload_n dX13_hand_21 rfl rfl ?_
  refine j_iconst (v := nI 1) dX13_hand_22 (by decide) ?_
  refine cV13_498 (d1 := 2) rfl dX13_hand_23 (by decide) (Nat.le_of_ble_eq_true rfl) ?_
  refine m_denied ?_
  refine j_zret rfl (by decide) dX13_hand_26 ?_
  rw [e1]; exact hp
theorem mx_handB2 {g : Nat} {y : Int32} (hX : XM mr) (hM : MM M) (hY : XT mr M) (hTn : mr 1000 3 = some M) (hg : GB t) (hW : WT t) (hR : RM mi M t) (h1 : g < t 0 6) (hb : bad y (t 0 3)) (hp : post (some (.int 0)) (rf mi (nI 1)) ml mr dom) : CT G 3 0 0 yX13_hand cX13_hand 4 (some .boolean) [.ref 1000, .int (nI g), .int y] mi ml mr dom post := by
  have w := hW.1
  have hge := hM.ge
  refine enter 1 (by decide) rfl rfl (fun X => ?_)
  refine j_aload_n dX13_hand_0 rfl rfl ?_
  refine j_iconst (v := nI 0) dX13_hand_1 (by decide) ?_
  refine pI13_51 rfl dX13_hand_2 ?_
  obtain ⟨m1, e1⟩ : ∃ m, m = up mi 1000 0 (nI 0) := ⟨_, rfl⟩
  rw [← e1]
  have hR1 : RM m1 M t := RM_lo hM (fun n hn => by rw [e1, up_off _ _ (by omega)]) hR
  refine j_aload_n dX13_hand_5 rfl rfl ?_
  refine j_iload_n dX13_hand_6 rfl rfl ?_
  refine cV13_361 (d1 := 1) rfl dX13_hand_7 (by decide) (Nat.le_of_ble_eq_true rfl) ?_
  refine m_isGoodG hX hM hY hTn hg hW hR1 (by omega) ?_
  refine j_if_eq (tgt := 21) dX13_hand_10 (by decide) (fun h10 => absurd h10 (by decide)) (fun h10 => ?_)
  refine j_aload_n dX13_hand_13 rfl rfl ?_
  refine j_iload_n dX13_hand_14 rfl rfl ?_
  refine cV13_352 (d1 := 1) rfl dX13_hand_15 (by decide) (Nat.le_of_ble_eq_true rfl) ?_
  refine m_isHouseB hX hM hY hTn hg hW hR1 hb ?_
  refine j_if_ne (tgt := 27) dX13_hand_18 (by decide) (fun h18 => absurd (by decide) h18) (fun h18 => ?_)
  refine j_aload_n dX13_hand_21 rfl rfl ?_
  refine j_iconst (v := nI 1) dX13_hand_22 (by decide) ?_
  refine cV13_498 (d1 := 2) rfl dX13_hand_23 (by decide) (Nat.le_of_ble_eq_true rfl) ?_
  refine m_denied ?_
  refine j_zret rfl (by decide) dX13_hand_26 ?_
  rw [e1]; exact hp
theorem mx_handN {g h : Nat} (hX : XM mr) (hM : MM M) (hY : XT mr M) (hTn : mr 1000 3 = some M) (hg : GB t) (hW : WT t) (hR : RM mi M t) (hV : VM mi t v) (hL : 60 ≤ t 0 2) (h1 : g < t 0 6) (h2 : h < t 0 3) (hno : (decide (0 < t 2 (6 * v (6 + g) + h)) && (!(isD t (v 11)) || pasB t (t 8 g) (v (6 + g)) h)) = false) (hp : post (some (.int 0)) (rf mi (nI 5)) ml mr dom) : CT G 3 0 0 yX13_hand cX13_hand 4 (some .boolean) [.ref 1000, .int (nI g), .int (nI h)] mi ml mr dom post := by
  have w := hW.1
  have hge := hM.ge
  have q6 := hV.2.1 g h1
  refine enter 1 (by decide) rfl rfl (fun X => ?_)
  refine j_aload_n dX13_hand_0 rfl rfl ?_
  refine j_iconst (v := nI 0) dX13_hand_1 (by decide) ?_
  refine pI13_51 rfl dX13_hand_2 ?_
  obtain ⟨m1, e1⟩ : ∃ m, m = up mi 1000 0 (nI 0) := ⟨_, rfl⟩
  rw [← e1]
  have hR1 : RM m1 M t := RM_lo hM (fun n hn => by rw [e1, up_off _ _ (by omega)]) hR
  have hV1 : VM m1 t v := VM_off (by rw [e1, up_off _ _ (by decide)]) hV
  refine j_aload_n dX13_hand_5 rfl rfl ?_
  refine j_iload_n dX13_hand_6 rfl rfl ?_
  refine cV13_361 (d1 := 1) rfl dX13_hand_7 (by decide) (Nat.le_of_ble_eq_true rfl) ?_
  refine m_isGoodG hX hM hY hTn hg hW hR1 (by omega) ?_
  refine j_if_eq (tgt := 21) dX13_hand_10 (by decide) (fun h10 => absurd h10 (by decide)) (fun h10 => ?_)
  refine j_aload_n dX13_hand_13 rfl rfl ?_
  refine j_iload_n dX13_hand_14 rfl rfl ?_
  refine cV13_352 (d1 := 1) rfl dX13_hand_15 (by decide) (Nat.le_of_ble_eq_true rfl) ?_
  refine m_isHouseG hX hM hY hTn hg hW hR1 (by omega) ?_
  refine j_if_ne (tgt := 27) dX13_hand_18 (by decide) (fun h18 => ?_) (fun h18 => absurd h18 (by decide))
  refine j_aload_n dX13_hand_27 rfl rfl ?_
  refine gR13_17 rfl dX13_hand_28 (x1002 hX) ?_
  refine j_bipush (v := nI 6) dX13_hand_31 (by decide) ?_
  refine j_iload_n dX13_hand_33 rfl rfl ?_
  refine j_iadd dX13_hand_34 ?_
  rw [nI_add]
  refine j_iald rfl (inT (show ln 1002 = 13 from rfl) (by show 6 + g < 13; omega) (by decide)) dX13_hand_35 ?_
  rw [nI_clamp (by omega), (hV1.2.1 g (by show g < t 0 6; omega)).1]
  refine j_istore_n (lv2 := [_, _, _, _]) dX13_hand_36 rfl (by decide) rfl rfl ?_
  refine j_aload_n dX13_hand_37 rfl rfl ?_
  refine gR13_335 rfl dX13_hand_38 hTn ?_
  refine gR13_257 (kM0 hM) dX13_hand_41 (xM2 hY) ?_
  refine j_bipush (v := nI 6) dX13_hand_44 (by decide) ?_
  refine j_iload_n dX13_hand_46 rfl rfl ?_
  refine j_imul dX13_hand_47 ?_
  rw [pk_mul]
  refine j_iload_n dX13_hand_48 rfl rfl ?_
  refine j_iadd dX13_hand_49 ?_
  rw [nI_add]
  refine j_iald (kM2 hM) (inT (lM2 hM) (by have := (hV1.2.1 g (by show g < t 0 6; omega)).2; have := hg 0 3; show (6 * (v (6 + g))) + h < 36; omega) (by decide)) dX13_hand_50 ?_
  rw [nI_clamp (by have := (hV1.2.1 g (by show g < t 0 6; omega)).2; have := hg 0 3; omega), rM2 hR1 (by have := (hV1.2.1 g (by show g < t 0 6; omega)).2; have := hg 0 3; show (6 * (v (6 + g))) + h < 36; omega)]
  refine j_if_eq (tgt := 89) dX13_hand_51 (by decide) (fun h51 => ?_) (fun h51 => ?_)
  all_goals rw [show (0 : Int32) = nI 0 from rfl, nI_eq (by have := hg 2 ((6 * (v (6 + g))) + h); omega) (by decide)] at h51
  · refine j_aload_n dX13_hand_89 rfl rfl ?_
    refine j_iconst (v := nI 5) dX13_hand_90 (by decide) ?_
    refine cV13_498 (d1 := 2) rfl dX13_hand_91 (by decide) (Nat.le_of_ble_eq_true rfl) ?_
    refine m_denied ?_
    refine j_zret rfl (by decide) dX13_hand_94 ?_
    rw [e1]; exact hp
  · refine j_aload_n dX13_hand_54 rfl rfl ?_
    refine gR13_335 rfl dX13_hand_55 hTn ?_
    refine j_aload_n dX13_hand_58 rfl rfl ?_
    refine gR13_17 rfl dX13_hand_59 (x1002 hX) ?_
    refine j_bipush (v := nI 11) dX13_hand_62 (by decide) ?_
    refine j_iald rfl (inT (show ln 1002 = 13 from rfl) (by show 11 < 13; omega) (by decide)) dX13_hand_64 ?_
    rw [nI_clamp (by omega), hV1.2.2.1.1]
    refine cV13_367 (d1 := 1) (kM0 hM) dX13_hand_65 (by decide) (Nat.le_of_ble_eq_true rfl) ?_
    refine m_isDay hM hY hg hW hR1 (by have := hV1.2.2.1.2; have := hg 0 3; omega) ?_
    refine j_if_eq (tgt := 95) dX13_hand_68 (by decide) (fun h68 => ?_) (fun h68 => ?_)
    all_goals rw [bN_eq0] at h68
    · exfalso
      unfold pasB at hno
      rw [decide_eq_true (show 0 < t 2 (6 * v (6 + g) + h) by omega), Bool.true_and] at hno
      first
        | (rw [h68, Bool.not_false, Bool.true_or] at hno; exact absurd hno (by decide))
        | (rw [Bool.not_eq_false] at h68 h77 h86
           rw [h68, h77, h86] at hno; exact absurd hno (by decide))
    · refine j_aload_n dX13_hand_71 rfl rfl ?_
      refine j_iload_n dX13_hand_72 rfl rfl ?_
      refine j_iload_n dX13_hand_73 rfl rfl ?_
      refine cV13_437 (d1 := 2) rfl dX13_hand_74 (by decide) (Nat.le_of_ble_eq_true rfl) ?_
      refine m_isPassing hX hM hY hTn hg hW hR1 hL (by omega) (by have := (hV1.2.1 g (by show g < t 0 6; omega)).2; have := hg 0 3; omega) ?_
      refine j_if_eq (tgt := 89) dX13_hand_77 (by decide) (fun h77 => ?_) (fun h77 => ?_)
      all_goals rw [bN_eq0] at h77
      · refine j_aload_n dX13_hand_89 rfl rfl ?_
        refine j_iconst (v := nI 5) dX13_hand_90 (by decide) ?_
        refine cV13_498 (d1 := 2) rfl dX13_hand_91 (by decide) (Nat.le_of_ble_eq_true rfl) ?_
        refine m_denied ?_
        refine j_zret rfl (by decide) dX13_hand_94 ?_
        rw [e1]; exact hp
      · refine j_aload_n dX13_hand_80 rfl rfl ?_
        refine j_iload_n dX13_hand_81 rfl rfl ?_
        refine j_iload_n dX13_hand_82 rfl rfl ?_
        refine cV13_437 (d1 := 2) rfl dX13_hand_83 (by decide) (Nat.le_of_ble_eq_true rfl) ?_
        refine m_isPassing hX hM hY hTn hg hW hR1 hL (by omega) (by omega) ?_
        refine j_if_ne (tgt := 95) dX13_hand_86 (by decide) (fun h86 => ?_) (fun h86 => ?_)
        all_goals rw [bN_eq0] at h86
        · exfalso
          unfold pasB at hno
          rw [decide_eq_true (show 0 < t 2 (6 * v (6 + g) + h) by omega), Bool.true_and] at hno
          first
            | (rw [h68, Bool.not_false, Bool.true_or] at hno; exact absurd hno (by decide))
            | (rw [Bool.not_eq_false] at h68 h77 h86
               rw [h68, h77, h86] at hno; exact absurd hno (by decide))
        · refine j_aload_n dX13_hand_89 rfl rfl ?_
          refine j_iconst (v := nI 5) dX13_hand_90 (by decide) ?_
          refine cV13_498 (d1 := 2) rfl dX13_hand_91 (by decide) (Nat.le_of_ble_eq_true rfl) ?_
          refine m_denied ?_
          refine j_zret rfl (by decide) dX13_hand_94 ?_
          rw [e1]; exact hp
theorem mx_hand {g h a : Nat} (hX : XM mr) (hM : MM M) (hY : XT mr M) (hTn : mr 1000 3 = some M) (hg : GB t) (hW : WT t) (hR : RM mi M t) (hV : VM mi t v) (hL : 60 ≤ t 0 2) (h1 : g < t 0 6) (h2 : h < t 0 3) (hyes : (decide (0 < t 2 (6 * v (6 + g) + h)) && (!(isD t (v 11)) || pasB t (t 8 g) (v (6 + g)) h)) = true) (h_acts : mi 1000 19 = nI a) (ha : a ≤ 16) (hp : ∀ m, RB2 a (up mi 1000 0 (nI 0)) m → post (some (.int 1)) (up (up (up m 1002 (6 + g) (nI h)) 1000 1 0) 1000 2 (-1)) ml mr dom) : CT G 3 0 0 yX13_hand cX13_hand 4 (some .boolean) [.ref 1000, .int (nI g), .int (nI h)] mi ml mr dom post := by
  have w := hW.1
  have hge := hM.ge
  have q6 := hV.2.1 g h1
  rw [Bool.and_eq_true, decide_eq_true_eq] at hyes
  refine enter 1 (by decide) rfl rfl (fun X => ?_)
  refine j_aload_n dX13_hand_0 rfl rfl ?_
  refine j_iconst (v := nI 0) dX13_hand_1 (by decide) ?_
  refine pI13_51 rfl dX13_hand_2 ?_
  obtain ⟨m1, e1⟩ : ∃ m, m = up mi 1000 0 (nI 0) := ⟨_, rfl⟩
  rw [← e1]
  have hR1 : RM m1 M t := RM_lo hM (fun n hn => by rw [e1, up_off _ _ (by omega)]) hR
  have hV1 : VM m1 t v := VM_off (by rw [e1, up_off _ _ (by decide)]) hV
  refine j_aload_n dX13_hand_5 rfl rfl ?_
  refine j_iload_n dX13_hand_6 rfl rfl ?_
  refine cV13_361 (d1 := 1) rfl dX13_hand_7 (by decide) (Nat.le_of_ble_eq_true rfl) ?_
  refine m_isGoodG hX hM hY hTn hg hW hR1 (by omega) ?_
  refine j_if_eq (tgt := 21) dX13_hand_10 (by decide) (fun h10 => absurd h10 (by decide)) (fun h10 => ?_)
  refine j_aload_n dX13_hand_13 rfl rfl ?_
  refine j_iload_n dX13_hand_14 rfl rfl ?_
  refine cV13_352 (d1 := 1) rfl dX13_hand_15 (by decide) (Nat.le_of_ble_eq_true rfl) ?_
  refine m_isHouseG hX hM hY hTn hg hW hR1 (by omega) ?_
  refine j_if_ne (tgt := 27) dX13_hand_18 (by decide) (fun h18 => ?_) (fun h18 => absurd h18 (by decide))
  refine j_aload_n dX13_hand_27 rfl rfl ?_
  refine gR13_17 rfl dX13_hand_28 (x1002 hX) ?_
  refine j_bipush (v := nI 6) dX13_hand_31 (by decide) ?_
  refine j_iload_n dX13_hand_33 rfl rfl ?_
  refine j_iadd dX13_hand_34 ?_
  rw [nI_add]
  refine j_iald rfl (inT (show ln 1002 = 13 from rfl) (by show 6 + g < 13; omega) (by decide)) dX13_hand_35 ?_
  rw [nI_clamp (by omega), (hV1.2.1 g (by show g < t 0 6; omega)).1]
  refine j_istore_n (lv2 := [_, _, _, _]) dX13_hand_36 rfl (by decide) rfl rfl ?_
  refine j_aload_n dX13_hand_37 rfl rfl ?_
  refine gR13_335 rfl dX13_hand_38 hTn ?_
  refine gR13_257 (kM0 hM) dX13_hand_41 (xM2 hY) ?_
  refine j_bipush (v := nI 6) dX13_hand_44 (by decide) ?_
  refine j_iload_n dX13_hand_46 rfl rfl ?_
  refine j_imul dX13_hand_47 ?_
  rw [pk_mul]
  refine j_iload_n dX13_hand_48 rfl rfl ?_
  refine j_iadd dX13_hand_49 ?_
  rw [nI_add]
  refine j_iald (kM2 hM) (inT (lM2 hM) (by have := (hV1.2.1 g (by show g < t 0 6; omega)).2; have := hg 0 3; show (6 * (v (6 + g))) + h < 36; omega) (by decide)) dX13_hand_50 ?_
  rw [nI_clamp (by have := (hV1.2.1 g (by show g < t 0 6; omega)).2; have := hg 0 3; omega), rM2 hR1 (by have := (hV1.2.1 g (by show g < t 0 6; omega)).2; have := hg 0 3; show (6 * (v (6 + g))) + h < 36; omega)]
  refine j_if_eq (tgt := 89) dX13_hand_51 (by decide) (fun h51 => by exfalso; rw [show (0 : Int32) = nI 0 from rfl, nI_eq (by have := hg 2 ((6 * (v (6 + g))) + h); omega) (by decide)] at h51; have := hg 2 ((6 * (v (6 + g))) + h); omega) (fun h51 => ?_)
  refine j_aload_n dX13_hand_54 rfl rfl ?_
  refine gR13_335 rfl dX13_hand_55 hTn ?_
  refine j_aload_n dX13_hand_58 rfl rfl ?_
  refine gR13_17 rfl dX13_hand_59 (x1002 hX) ?_
  refine j_bipush (v := nI 11) dX13_hand_62 (by decide) ?_
  refine j_iald rfl (inT (show ln 1002 = 13 from rfl) (by show 11 < 13; omega) (by decide)) dX13_hand_64 ?_
  rw [nI_clamp (by omega), hV1.2.2.1.1]
  refine cV13_367 (d1 := 1) (kM0 hM) dX13_hand_65 (by decide) (Nat.le_of_ble_eq_true rfl) ?_
  refine m_isDay hM hY hg hW hR1 (by have := hV1.2.2.1.2; have := hg 0 3; omega) ?_
  refine j_if_eq (tgt := 95) dX13_hand_68 (by decide) (fun h68 => ?_) (fun h68 => ?_)
  all_goals rw [bN_eq0] at h68
  · refine j_aload_n dX13_hand_95 rfl rfl ?_
    refine cV13_495 (d1 := 1) rfl dX13_hand_96 (by decide) (Nat.le_of_ble_eq_true rfl) ?_
    refine m_rememb hX ha (by rw [e1, up_ne _ _ (by decide)]; exact h_acts) (fun m2 hm2 => ?_)
    refine j_aload_n dX13_hand_99 rfl rfl ?_
    refine gR13_17 rfl dX13_hand_100 (x1002 hX) ?_
    refine j_bipush (v := nI 6) dX13_hand_103 (by decide) ?_
    refine j_iload_n dX13_hand_105 rfl rfl ?_
    refine j_iadd dX13_hand_106 ?_
    rw [nI_add]
    refine j_iload_n dX13_hand_107 rfl rfl ?_
    refine j_iast rfl (inT (show ln 1002 = 13 from rfl) (by show 6 + g < 13; omega) (by decide)) dX13_hand_108 ?_
    rw [nI_clamp (by omega)]
    refine j_aload_n dX13_hand_109 rfl rfl ?_
    refine cV13_501 (d1 := 2) rfl dX13_hand_110 (by decide) (Nat.le_of_ble_eq_true rfl) ?_
    refine m_granted ?_
    refine j_zret rfl (by decide) dX13_hand_113 ?_
    exact hp m2 (e1 ▸ hm2)
  · refine j_aload_n dX13_hand_71 rfl rfl ?_
    refine j_iload_n dX13_hand_72 rfl rfl ?_
    refine j_iload_n dX13_hand_73 rfl rfl ?_
    refine cV13_437 (d1 := 2) rfl dX13_hand_74 (by decide) (Nat.le_of_ble_eq_true rfl) ?_
    refine m_isPassing hX hM hY hTn hg hW hR1 hL (by omega) (by have := (hV1.2.1 g (by show g < t 0 6; omega)).2; have := hg 0 3; omega) ?_
    refine j_if_eq (tgt := 89) dX13_hand_77 (by decide) (fun h77 => ?_) (fun h77 => ?_)
    all_goals rw [bN_eq0] at h77
    · exfalso
      have hy2 := hyes.2
      unfold pasB at hy2
      first
        | (rw [Bool.not_eq_false] at h68
           rw [h68, h77, Bool.false_and] at hy2; exact absurd hy2 (by decide))
        | (rw [Bool.not_eq_false] at h68
           rw [h68, h86, Bool.and_false] at hy2; exact absurd hy2 (by decide))
    · refine j_aload_n dX13_hand_80 rfl rfl ?_
      refine j_iload_n dX13_hand_81 rfl rfl ?_
      refine j_iload_n dX13_hand_82 rfl rfl ?_
      refine cV13_437 (d1 := 2) rfl dX13_hand_83 (by decide) (Nat.le_of_ble_eq_true rfl) ?_
      refine m_isPassing hX hM hY hTn hg hW hR1 hL (by omega) (by omega) ?_
      refine j_if_ne (tgt := 95) dX13_hand_86 (by decide) (fun h86 => ?_) (fun h86 => ?_)
      all_goals rw [bN_eq0] at h86
      · refine j_aload_n dX13_hand_95 rfl rfl ?_
        refine cV13_495 (d1 := 1) rfl dX13_hand_96 (by decide) (Nat.le_of_ble_eq_true rfl) ?_
        refine m_rememb hX ha (by rw [e1, up_ne _ _ (by decide)]; exact h_acts) (fun m2 hm2 => ?_)
        refine j_aload_n dX13_hand_99 rfl rfl ?_
        refine gR13_17 rfl dX13_hand_100 (x1002 hX) ?_
        refine j_bipush (v := nI 6) dX13_hand_103 (by decide) ?_
        refine j_iload_n dX13_hand_105 rfl rfl ?_
        refine j_iadd dX13_hand_106 ?_
        rw [nI_add]
        refine j_iload_n dX13_hand_107 rfl rfl ?_
        refine j_iast rfl (inT (show ln 1002 = 13 from rfl) (by show 6 + g < 13; omega) (by decide)) dX13_hand_108 ?_
        rw [nI_clamp (by omega)]
        refine j_aload_n dX13_hand_109 rfl rfl ?_
        refine cV13_501 (d1 := 2) rfl dX13_hand_110 (by decide) (Nat.le_of_ble_eq_true rfl) ?_
        refine m_granted ?_
        refine j_zret rfl (by decide) dX13_hand_113 ?_
        exact hp m2 (e1 ▸ hm2)
      · exfalso
        have hy2 := hyes.2
        unfold pasB at hy2
        first
          | (rw [Bool.not_eq_false] at h68
             rw [h68, h77, Bool.false_and] at hy2; exact absurd hy2 (by decide))
          | (rw [Bool.not_eq_false] at h68
             rw [h68, h86, Bool.and_false] at hy2; exact absurd hy2 (by decide))
theorem mx_undoNu  (hTn : mr 1000 3 = none)  (hp : post (some (.int 0)) (rf mi (nI 6)) ml mr dom) : CT G 3 0 0 yX13_undo cX13_undo 2 (some .boolean) [.ref 1000] mi ml mr dom post := by
  refine enter 1 (by decide) rfl rfl (fun X => ?_)
  refine j_aload_n dX13_undo_0 rfl rfl ?_
  refine j_iconst (v := nI 0) dX13_undo_1 (by decide) ?_
  refine pI13_51 rfl dX13_undo_2 ?_
  obtain ⟨m1, e1⟩ : ∃ m, m = up mi 1000 0 (nI 0) := ⟨_, rfl⟩
  rw [← e1]
  refine j_aload_n dX13_undo_5 rfl rfl ?_
  refine gN13_335 rfl dX13_undo_6 hTn ?_
  refine j_ifnullN (tgt := 19) dX13_undo_9 (by decide) ?_
  refine j_aload_n dX13_undo_19 rfl rfl ?_
  refine j_bipush (v := nI 6) dX13_undo_20 (by decide) ?_
  refine cV13_498 (d1 := 2) rfl dX13_undo_22 (by decide) (Nat.le_of_ble_eq_true rfl) ?_
  refine m_denied ?_
  refine j_zret rfl (by decide) dX13_undo_25 ?_
  rw [e1]; exact hp
theorem mx_undoN  (hX : XM mr) (hM : MM M) (hY : XT mr M) (hTn : mr 1000 3 = some M) (hg : GB t) (hW : WT t) (hR : RM mi M t) (h_acts : mi 1000 19 = nI 0)  (hp : post (some (.int 0)) (rf mi (nI 6)) ml mr dom) : CT G 3 0 0 yX13_undo cX13_undo 2 (some .boolean) [.ref 1000] mi ml mr dom post := by
  have w := hW.1
  have hge := hM.ge
  refine enter 1 (by decide) rfl rfl (fun X => ?_)
  refine j_aload_n dX13_undo_0 rfl rfl ?_
  refine j_iconst (v := nI 0) dX13_undo_1 (by decide) ?_
  refine pI13_51 rfl dX13_undo_2 ?_
  obtain ⟨m1, e1⟩ : ∃ m, m = up mi 1000 0 (nI 0) := ⟨_, rfl⟩
  rw [← e1]
  have hR1 : RM m1 M t := RM_lo hM (fun n hn => by rw [e1, up_off _ _ (by omega)]) hR
  refine j_aload_n dX13_undo_5 rfl rfl ?_
  refine gR13_335 rfl dX13_undo_6 hTn ?_
  refine j_ifnull dX13_undo_9 ?_
  refine j_aload_n dX13_undo_12 rfl rfl ?_
  refine gI13_340 rfl dX13_undo_13 ?_
  rw [show m1 1000 19 = nI 0 by rw [e1, up_ne _ _ (by decide)]; exact h_acts]
  refine j_if_ne (tgt := 26) dX13_undo_16 (by decide) (fun h16 => absurd (by decide) h16) (fun h16 => ?_)
  refine j_aload_n dX13_undo_19 rfl rfl ?_
  refine j_bipush (v := nI 6) dX13_undo_20 (by decide) ?_
  refine cV13_498 (d1 := 2) rfl dX13_undo_22 (by decide) (Nat.le_of_ble_eq_true rfl) ?_
  refine m_denied ?_
  refine j_zret rfl (by decide) dX13_undo_25 ?_
  rw [e1]; exact hp
theorem mx_undo {a : Nat} (hX : XM mr) (hM : MM M) (hY : XT mr M) (hTn : mr 1000 3 = some M) (hg : GB t) (hW : WT t) (hR : RM mi M t) (h_acts : mi 1000 19 = nI (a + 1)) (ha : a < 16) (hp : ∀ m, off1 1002 m (up (up mi 1000 0 (nI 0)) 1000 19 (nI a)) → (∀ j, j < 13 → m 1002 (j) = (up (up mi 1000 0 (nI 0)) 1000 19 (nI a)) 1003 (13 * a + j)) → (∀ j, (∀ k, k < 13 → j ≠ k) → m 1002 j = (up (up mi 1000 0 (nI 0)) 1000 19 (nI a)) 1002 j) → post (some (.int 1)) (up (up m 1000 1 0) 1000 2 (-1)) ml mr dom) : CT G 4 0 0 yX13_undo cX13_undo 2 (some .boolean) [.ref 1000] mi ml mr dom post := by
  have w := hW.1
  have hge := hM.ge
  refine enter 1 (by decide) rfl rfl (fun X => ?_)
  refine j_aload_n dX13_undo_0 rfl rfl ?_
  refine j_iconst (v := nI 0) dX13_undo_1 (by decide) ?_
  refine pI13_51 rfl dX13_undo_2 ?_
  obtain ⟨m1, e1⟩ : ∃ m, m = up mi 1000 0 (nI 0) := ⟨_, rfl⟩
  rw [← e1]
  have hR1 : RM m1 M t := RM_lo hM (fun n hn => by rw [e1, up_off _ _ (by omega)]) hR
  refine j_aload_n dX13_undo_5 rfl rfl ?_
  refine gR13_335 rfl dX13_undo_6 hTn ?_
  refine j_ifnull dX13_undo_9 ?_
  refine j_aload_n dX13_undo_12 rfl rfl ?_
  refine gI13_340 rfl dX13_undo_13 ?_
  rw [show m1 1000 19 = nI (a + 1) by rw [e1, up_ne _ _ (by decide)]; exact h_acts]
  refine j_if_ne (tgt := 26) dX13_undo_16 (by decide) (fun h16 => ?_) (fun h16 => by exfalso; rw [show (0 : Int32) = nI 0 from rfl, nI_eq (by omega) (by decide)] at h16; omega)
  refine j_aload_n dX13_undo_26 rfl rfl ?_
  refine j_dup dX13_undo_27 rfl ?_
  refine gI13_340 rfl dX13_undo_28 ?_
  rw [show m1 1000 19 = nI (a + 1) by rw [e1, up_ne _ _ (by decide)]; exact h_acts]
  refine j_iconst (v := nI 1) dX13_undo_31 (by decide) ?_
  refine j_isub dX13_undo_32 ?_
  rw [pk_sub (by show 1 ≤ a + 1; omega)]
  refine pI13_340 rfl dX13_undo_33 ?_
  obtain ⟨m3, e3⟩ : ∃ m, m = (up (up mi 1000 0 (nI 0)) 1000 19 (nI a)) := ⟨_, rfl⟩
  rw [e1, show a + 1 - 1 = a by omega, ← e3]
  refine j_iconst (v := nI 0) dX13_undo_36 (by decide) ?_
  refine j_istore_n (lv2 := [_, _]) dX13_undo_37 rfl (by decide) rfl rfl ?_
  have key : ∀ m : MI, (off1 1002 m m3 ∧ (∀ j, j < 0 → m 1002 (j) = m3 1003 (13 * a + j)) ∧ ∀ j, (∀ k, k < 0 → j ≠ k) → m 1002 j = m3 1002 j) → J cX13_undo 2 yX13_undo.cls yX13_undo.name (some .boolean) 4 G X post 0 0 m ml mr dom 38 [some (.ref 1000), some (.int (nI 0))] [] := by
    refine lq (n := 13) (H := fun i => ∀ m : MI, (off1 1002 m m3 ∧ (∀ j, j < i → m 1002 (j) = m3 1003 (13 * a + j)) ∧ ∀ j, (∀ k, k < i → j ≠ k) → m 1002 j = m3 1002 j) → J cX13_undo 2 yX13_undo.cls yX13_undo.name (some .boolean) 4 G X post 0 0 m ml mr dom 38 [some (.ref 1000), some (.int (nI i))] []) (fun m hm => ?_) (fun i hi ih m hm => ?_)
    · skip
      refine j_iload_n dX13_undo_38 rfl rfl ?_
      refine j_bipush (v := nI 13) dX13_undo_39 (by decide) ?_
      refine j_icmp_ge (tgt := 70) dX13_undo_41 (by decide) (fun h41 => ?_) (fun h41 => by exfalso; rw [nI_leI (by omega) (by omega)] at h41; omega)
      refine j_aload_n dX13_undo_70 rfl rfl ?_
      refine cV13_501 (d1 := 2) rfl dX13_undo_71 (by decide) (Nat.le_of_ble_eq_true rfl) ?_
      refine m_granted ?_
      refine j_zret rfl (by decide) dX13_undo_74 ?_
      exact hp m (e3 ▸ hm.1) (e3 ▸ hm.2.1) (e3 ▸ hm.2.2)
    · skip
      refine j_iload_n dX13_undo_38 rfl rfl ?_
      refine j_bipush (v := nI 13) dX13_undo_39 (by decide) ?_
      refine j_icmp_ge (tgt := 70) dX13_undo_41 (by decide) (fun h41 => by exfalso; rw [nI_leI (by omega) (by omega)] at h41; omega) (fun h41 => ?_)
      refine j_aload_n dX13_undo_44 rfl rfl ?_
      refine gR13_17 rfl dX13_undo_45 (x1002 hX) ?_
      refine j_iload_n dX13_undo_48 rfl rfl ?_
      refine j_aload_n dX13_undo_49 rfl rfl ?_
      refine gR13_21 rfl dX13_undo_50 (x1003 hX) ?_
      refine j_bipush (v := nI 13) dX13_undo_53 (by decide) ?_
      refine j_aload_n dX13_undo_55 rfl rfl ?_
      refine gI13_340 rfl dX13_undo_56 ?_
      rw [hm.1 1000 (by decide), show m3 1000 19 = nI a by rw [e3, up_at]]
      refine j_imul dX13_undo_59 ?_
      rw [pk_mul]
      refine j_iload_n dX13_undo_60 rfl rfl ?_
      refine j_iadd dX13_undo_61 ?_
      rw [nI_add]
      refine j_iald rfl (inT (show ln 1003 = 208 from rfl) (by show (13 * a) + i < 208; omega) (by decide)) dX13_undo_62 ?_
      rw [nI_clamp (by omega)]
      refine j_iast rfl (inT (show ln 1002 = 13 from rfl) (by show i < 13; omega) (by decide)) dX13_undo_63 ?_
      rw [nI_clamp (by omega)]
      refine j_iinc1 (lv2 := [_, _]) dX13_undo_64 rfl (by decide) rfl rfl ?_
      rw [nI_1]
      refine j_goto (tgt := 38) dX13_undo_67 (by decide) ?_
      refine ih _ ⟨fun z hz => ?_, fun j hj => ?_, fun j hj => ?_⟩
      · rw [up_off _ _ hz]; exact hm.1 z hz
      · by_cases q : j = i
        · subst q; rw [up_at, hm.1 1003 (by decide)]
        · rw [up_ne _ _ (by omega)]; exact hm.2.1 j (by omega)
      · have := hj i (by omega)
        rw [up_ne _ _ (by omega)]; exact hm.2.2 j (fun k hk => hj k (by omega))
  exact key m3 ⟨fun _ _ => rfl, fun j hj => absurd hj (by omega), fun j _ => rfl⟩
theorem mx_imageF  (hX : XM mr) (hM : MM M) (hY : XT mr M) (hTn : mr 1000 3 = some M) (hg : GB t) (hW : WT t) (hR : RM mi M t) (h_marks : mi 1000 20 = nI 3)  (hp : post (some (.int (-1))) (rf mi (nI 3)) ml mr dom) : CT G 3 0 0 yX13_image cX13_image 2 (some .int) [.ref 1000] mi ml mr dom post := by
  have w := hW.1
  have hge := hM.ge
  refine enter 1 (by decide) rfl rfl (fun X => ?_)
  refine j_aload_n dX13_image_0 rfl rfl ?_
  refine j_iconst (v := nI 0) dX13_image_1 (by decide) ?_
  refine pI13_51 rfl dX13_image_2 ?_
  obtain ⟨m1, e1⟩ : ∃ m, m = up mi 1000 0 (nI 0) := ⟨_, rfl⟩
  rw [← e1]
  have hR1 : RM m1 M t := RM_lo hM (fun n hn => by rw [e1, up_off _ _ (by omega)]) hR
  refine j_aload_n dX13_image_5 rfl rfl ?_
  refine gR13_335 rfl dX13_image_6 hTn ?_
  refine j_ifnonnull (tgt := 18) dX13_image_9 (by decide) ?_
  refine j_aload_n dX13_image_18 rfl rfl ?_
  refine gI13_343 rfl dX13_image_19 ?_
  rw [show m1 1000 20 = nI 3 by rw [e1, up_ne _ _ (by decide)]; exact h_marks]
  refine j_iconst (v := nI 3) dX13_image_22 (by decide) ?_
  refine j_icmp_ne (tgt := 32) dX13_image_23 (by decide) (fun h23 => absurd (by decide) h23) (fun h23 => ?_)
  refine j_aload_n dX13_image_26 rfl rfl ?_
  refine j_iconst (v := nI 3) dX13_image_27 (by decide) ?_
  refine cV13_57 (d1 := 1) rfl dX13_image_28 (by decide) (Nat.le_of_ble_eq_true rfl) ?_
  refine m_refused ?_
  refine j_iret rfl dX13_image_31 ?_
  rw [e1]; exact hp
theorem mx_image {n : Nat} (hX : XM mr) (hM : MM M) (hY : XT mr M) (hTn : mr 1000 3 = some M) (hg : GB t) (hW : WT t) (hR : RM mi M t) (h_marks : mi 1000 20 = nI n) (hn : n < 3) (hp : ∀ m, off1 1004 m (up mi 1000 0 (nI 0)) → (∀ j, j < 13 → m 1004 (13 * n + j) = (up mi 1000 0 (nI 0)) 1002 (j)) → (∀ j, (∀ k, k < 13 → j ≠ 13 * n + k) → m 1004 j = (up mi 1000 0 (nI 0)) 1004 j) → post (some (.int (nI n))) (up (up (up m 1000 20 (nI (n + 1))) 1000 1 0) 1000 2 (-1)) ml mr dom) : CT G 3 0 0 yX13_image cX13_image 2 (some .int) [.ref 1000] mi ml mr dom post := by
  have w := hW.1
  have hge := hM.ge
  refine enter 1 (by decide) rfl rfl (fun X => ?_)
  refine j_aload_n dX13_image_0 rfl rfl ?_
  refine j_iconst (v := nI 0) dX13_image_1 (by decide) ?_
  refine pI13_51 rfl dX13_image_2 ?_
  obtain ⟨m1, e1⟩ : ∃ m, m = up mi 1000 0 (nI 0) := ⟨_, rfl⟩
  rw [← e1]
  have hR1 : RM m1 M t := RM_lo hM (fun n hn => by rw [e1, up_off _ _ (by omega)]) hR
  refine j_aload_n dX13_image_5 rfl rfl ?_
  refine gR13_335 rfl dX13_image_6 hTn ?_
  refine j_ifnonnull (tgt := 18) dX13_image_9 (by decide) ?_
  refine j_aload_n dX13_image_18 rfl rfl ?_
  refine gI13_343 rfl dX13_image_19 ?_
  rw [show m1 1000 20 = nI n by rw [e1, up_ne _ _ (by decide)]; exact h_marks]
  refine j_iconst (v := nI 3) dX13_image_22 (by decide) ?_
  refine j_icmp_ne (tgt := 32) dX13_image_23 (by decide) (fun h23 => ?_) (fun h23 => by exfalso; rw [nI_eq (by omega) (by omega)] at h23; omega)
  refine j_iconst (v := nI 0) dX13_image_32 (by decide) ?_
  refine j_istore_n (lv2 := [_, _]) dX13_image_33 rfl (by decide) rfl rfl ?_
  obtain ⟨m3, e3⟩ : ∃ m, m = m1 := ⟨_, rfl⟩
  rw [← e3] at e1 ⊢
  have key : ∀ m : MI, (off1 1004 m m3 ∧ (∀ j, j < 0 → m 1004 (13 * n + j) = m3 1002 (j)) ∧ ∀ j, (∀ k, k < 0 → j ≠ 13 * n + k) → m 1004 j = m3 1004 j) → J cX13_image 2 yX13_image.cls yX13_image.name (some .int) 3 G X post 0 0 m ml mr dom 34 [some (.ref 1000), some (.int (nI 0))] [] := by
    refine lq (n := 13) (H := fun i => ∀ m : MI, (off1 1004 m m3 ∧ (∀ j, j < i → m 1004 (13 * n + j) = m3 1002 (j)) ∧ ∀ j, (∀ k, k < i → j ≠ 13 * n + k) → m 1004 j = m3 1004 j) → J cX13_image 2 yX13_image.cls yX13_image.name (some .int) 3 G X post 0 0 m ml mr dom 34 [some (.ref 1000), some (.int (nI i))] []) (fun m hm => ?_) (fun i hi ih m hm => ?_)
    · skip
      refine j_iload_n dX13_image_34 rfl rfl ?_
      refine j_bipush (v := nI 13) dX13_image_35 (by decide) ?_
      refine j_icmp_ge (tgt := 66) dX13_image_37 (by decide) (fun h37 => ?_) (fun h37 => by exfalso; rw [nI_leI (by omega) (by omega)] at h37; omega)
      refine j_aload_n dX13_image_66 rfl rfl ?_
      refine j_dup dX13_image_67 rfl ?_
      refine gI13_343 rfl dX13_image_68 ?_
      rw [hm.1 1000 (by decide), show m3 1000 20 = nI n by rw [e1, up_ne _ _ (by decide)]; exact h_marks]
      refine j_iconst (v := nI 1) dX13_image_71 (by decide) ?_
      refine j_iadd dX13_image_72 ?_
      rw [nI_add]
      refine pI13_343 rfl dX13_image_73 ?_
      refine j_aload_n dX13_image_76 rfl rfl ?_
      refine j_aload_n dX13_image_77 rfl rfl ?_
      refine gI13_343 rfl dX13_image_78 ?_
      rw [up_at]
      refine j_iconst (v := nI 1) dX13_image_81 (by decide) ?_
      refine j_isub dX13_image_82 ?_
      rw [pk_sub (by omega)]
      refine cV13_61 (d1 := 1) rfl dX13_image_83 (by decide) (Nat.le_of_ble_eq_true rfl) ?_
      refine m_fair ?_
      refine j_iret rfl dX13_image_86 ?_
      rw [show n + 1 - 1 = n by omega]
      exact hp m (e1 ▸ hm.1) (e1 ▸ hm.2.1) (e1 ▸ hm.2.2)
    · skip
      refine j_iload_n dX13_image_34 rfl rfl ?_
      refine j_bipush (v := nI 13) dX13_image_35 (by decide) ?_
      refine j_icmp_ge (tgt := 66) dX13_image_37 (by decide) (fun h37 => by exfalso; rw [nI_leI (by omega) (by omega)] at h37; omega) (fun h37 => ?_)
      refine j_aload_n dX13_image_40 rfl rfl ?_
      refine gR13_24 rfl dX13_image_41 (x1004 hX) ?_
      refine j_bipush (v := nI 13) dX13_image_44 (by decide) ?_
      refine j_aload_n dX13_image_46 rfl rfl ?_
      refine gI13_343 rfl dX13_image_47 ?_
      rw [hm.1 1000 (by decide), show m3 1000 20 = nI n by rw [e1, up_ne _ _ (by decide)]; exact h_marks]
      refine j_imul dX13_image_50 ?_
      rw [pk_mul]
      refine j_iload_n dX13_image_51 rfl rfl ?_
      refine j_iadd dX13_image_52 ?_
      rw [nI_add]
      refine j_aload_n dX13_image_53 rfl rfl ?_
      refine gR13_17 rfl dX13_image_54 (x1002 hX) ?_
      refine j_iload_n dX13_image_57 rfl rfl ?_
      refine j_iald rfl (inT (show ln 1002 = 13 from rfl) (by show i < 13; omega) (by decide)) dX13_image_58 ?_
      rw [nI_clamp (by omega)]
      refine j_iast rfl (inT (show ln 1004 = 39 from rfl) (by show (13 * n) + i < 39; omega) (by decide)) dX13_image_59 ?_
      rw [nI_clamp (by omega)]
      refine j_iinc1 (lv2 := [_, _]) dX13_image_60 rfl (by decide) rfl rfl ?_
      rw [nI_1]
      refine j_goto (tgt := 34) dX13_image_63 (by decide) ?_
      refine ih _ ⟨fun z hz => ?_, fun j hj => ?_, fun j hj => ?_⟩
      · rw [up_off _ _ hz]; exact hm.1 z hz
      · by_cases q : j = i
        · subst q; rw [up_at, hm.1 1002 (by decide)]
        · rw [up_ne _ _ (by omega)]; exact hm.2.1 j (by omega)
      · have := hj i (by omega)
        rw [up_ne _ _ (by omega)]; exact hm.2.2 j (fun k hk => hj k (by omega))
  exact key m3 ⟨fun _ _ => rfl, fun j hj => absurd hj (by omega), fun j _ => rfl⟩
theorem mx_backNu {x : Int32} (hTn : mr 1000 3 = none)  (hp : post (some (.int 0)) (rf mi (nI 1)) ml mr dom) : CT G 3 0 0 yX13_back cX13_back 3 (some .boolean) [.ref 1000, .int x] mi ml mr dom post := by
  refine enter 1 (by decide) rfl rfl (fun X => ?_)
  refine j_aload_n dX13_back_0 rfl rfl ?_
  refine j_iconst (v := nI 0) dX13_back_1 (by decide) ?_
  refine pI13_51 rfl dX13_back_2 ?_
  obtain ⟨m1, e1⟩ : ∃ m, m = up mi 1000 0 (nI 0) := ⟨_, rfl⟩
  rw [← e1]
  refine j_aload_n dX13_back_5 rfl rfl ?_
  refine gN13_335 rfl dX13_back_6 hTn ?_
  refine j_ifnullN (tgt := 24) dX13_back_9 (by decide) ?_
  refine j_aload_n dX13_back_24 rfl rfl ?_
  refine j_iconst (v := nI 1) dX13_back_25 (by decide) ?_
  refine cV13_498 (d1 := 2) rfl dX13_back_26 (by decide) (Nat.le_of_ble_eq_true rfl) ?_
  refine m_denied ?_
  refine j_zret rfl (by decide) dX13_back_29 ?_
  rw [e1]; exact hp
theorem mx_backB {x : Int32} {n : Nat} (hX : XM mr) (hM : MM M) (hY : XT mr M) (hTn : mr 1000 3 = some M) (hg : GB t) (hW : WT t) (hR : RM mi M t) (h_marks : mi 1000 20 = nI n) (hb : bad x n) (hp : post (some (.int 0)) (rf mi (nI 1)) ml mr dom) : CT G 3 0 0 yX13_back cX13_back 3 (some .boolean) [.ref 1000, .int x] mi ml mr dom post := by
  have w := hW.1
  have hge := hM.ge
  refine enter 1 (by decide) rfl rfl (fun X => ?_)
  refine j_aload_n dX13_back_0 rfl rfl ?_
  refine j_iconst (v := nI 0) dX13_back_1 (by decide) ?_
  refine pI13_51 rfl dX13_back_2 ?_
  obtain ⟨m1, e1⟩ : ∃ m, m = up mi 1000 0 (nI 0) := ⟨_, rfl⟩
  rw [← e1]
  have hR1 : RM m1 M t := RM_lo hM (fun n hn => by rw [e1, up_off _ _ (by omega)]) hR
  refine j_aload_n dX13_back_5 rfl rfl ?_
  refine gR13_335 rfl dX13_back_6 hTn ?_
  refine j_ifnull dX13_back_9 ?_
  refine j_iload_n dX13_back_12 rfl rfl ?_
  refine j_if_lt (tgt := 24) dX13_back_13 (by decide) (fun h13 => ?_) (fun h13 => ?_)
  · refine j_aload_n dX13_back_24 rfl rfl ?_
    refine j_iconst (v := nI 1) dX13_back_25 (by decide) ?_
    refine cV13_498 (d1 := 2) rfl dX13_back_26 (by decide) (Nat.le_of_ble_eq_true rfl) ?_
    refine m_denied ?_
    refine j_zret rfl (by decide) dX13_back_29 ?_
    rw [e1]; exact hp
  · refine j_iload_n dX13_back_16 rfl rfl ?_
    refine j_aload_n dX13_back_17 rfl rfl ?_
    refine gI13_343 rfl dX13_back_18 ?_
    rw [show m1 1000 20 = nI n by rw [e1, up_ne _ _ (by decide)]; exact h_marks]
    refine j_icmp_lt (tgt := 30) dX13_back_21 (by decide) (fun h21 => ?_) (fun h21 => ?_)
    · exact (hb.elim h13 (fun q => absurd h21 (Int32.not_lt.mpr q))).elim
    · refine j_aload_n dX13_back_24 rfl rfl ?_
      refine j_iconst (v := nI 1) dX13_back_25 (by decide) ?_
      refine cV13_498 (d1 := 2) rfl dX13_back_26 (by decide) (Nat.le_of_ble_eq_true rfl) ?_
      refine m_denied ?_
      refine j_zret rfl (by decide) dX13_back_29 ?_
      rw [e1]; exact hp
theorem mx_back {x n : Nat} (hX : XM mr) (hM : MM M) (hY : XT mr M) (hTn : mr 1000 3 = some M) (hg : GB t) (hW : WT t) (hR : RM mi M t) (h_marks : mi 1000 20 = nI n) (hx : x < n) (hn : n ≤ 3) (hp : ∀ m, off1 1002 m (up mi 1000 0 (nI 0)) → (∀ j, j < 13 → m 1002 (j) = (up mi 1000 0 (nI 0)) 1004 (13 * x + j)) → (∀ j, (∀ k, k < 13 → j ≠ k) → m 1002 j = (up mi 1000 0 (nI 0)) 1002 j) → post (some (.int 1)) (up (up (up m 1000 19 (nI 0)) 1000 1 0) 1000 2 (-1)) ml mr dom) : CT G 4 0 0 yX13_back cX13_back 3 (some .boolean) [.ref 1000, .int (nI x)] mi ml mr dom post := by
  have w := hW.1
  have hge := hM.ge
  refine enter 1 (by decide) rfl rfl (fun X => ?_)
  refine j_aload_n dX13_back_0 rfl rfl ?_
  refine j_iconst (v := nI 0) dX13_back_1 (by decide) ?_
  refine pI13_51 rfl dX13_back_2 ?_
  obtain ⟨m1, e1⟩ : ∃ m, m = up mi 1000 0 (nI 0) := ⟨_, rfl⟩
  rw [← e1]
  have hR1 : RM m1 M t := RM_lo hM (fun n hn => by rw [e1, up_off _ _ (by omega)]) hR
  refine j_aload_n dX13_back_5 rfl rfl ?_
  refine gR13_335 rfl dX13_back_6 hTn ?_
  refine j_ifnull dX13_back_9 ?_
  refine j_iload_n dX13_back_12 rfl rfl ?_
  refine j_if_lt (tgt := 24) dX13_back_13 (by decide) (fun h13 => absurd h13 (nI_pos (by omega))) (fun h13 => ?_)
  refine j_iload_n dX13_back_16 rfl rfl ?_
  refine j_aload_n dX13_back_17 rfl rfl ?_
  refine gI13_343 rfl dX13_back_18 ?_
  rw [show m1 1000 20 = nI n by rw [e1, up_ne _ _ (by decide)]; exact h_marks]
  refine j_icmp_lt (tgt := 30) dX13_back_21 (by decide) (fun h21 => ?_) (fun h21 => by exfalso; rw [nI_ltI (by omega) (by omega)] at h21; omega)
  refine j_iconst (v := nI 0) dX13_back_30 (by decide) ?_
  refine j_istore_n (lv2 := [_, _, _]) dX13_back_31 rfl (by decide) rfl rfl ?_
  obtain ⟨m3, e3⟩ : ∃ m, m = m1 := ⟨_, rfl⟩
  rw [← e3] at e1 ⊢
  have key : ∀ m : MI, (off1 1002 m m3 ∧ (∀ j, j < 0 → m 1002 (j) = m3 1004 (13 * x + j)) ∧ ∀ j, (∀ k, k < 0 → j ≠ k) → m 1002 j = m3 1002 j) → J cX13_back 3 yX13_back.cls yX13_back.name (some .boolean) 4 G X post 0 0 m ml mr dom 32 [some (.ref 1000), some (.int (nI x)), some (.int (nI 0))] [] := by
    refine lq (n := 13) (H := fun i => ∀ m : MI, (off1 1002 m m3 ∧ (∀ j, j < i → m 1002 (j) = m3 1004 (13 * x + j)) ∧ ∀ j, (∀ k, k < i → j ≠ k) → m 1002 j = m3 1002 j) → J cX13_back 3 yX13_back.cls yX13_back.name (some .boolean) 4 G X post 0 0 m ml mr dom 32 [some (.ref 1000), some (.int (nI x)), some (.int (nI i))] []) (fun m hm => ?_) (fun i hi ih m hm => ?_)
    · skip
      refine j_iload_n dX13_back_32 rfl rfl ?_
      refine j_bipush (v := nI 13) dX13_back_33 (by decide) ?_
      refine j_icmp_ge (tgt := 61) dX13_back_35 (by decide) (fun h35 => ?_) (fun h35 => by exfalso; rw [nI_leI (by omega) (by omega)] at h35; omega)
      refine j_aload_n dX13_back_61 rfl rfl ?_
      refine j_iconst (v := nI 0) dX13_back_62 (by decide) ?_
      refine pI13_340 rfl dX13_back_63 ?_
      refine j_aload_n dX13_back_66 rfl rfl ?_
      refine cV13_501 (d1 := 2) rfl dX13_back_67 (by decide) (Nat.le_of_ble_eq_true rfl) ?_
      refine m_granted ?_
      refine j_zret rfl (by decide) dX13_back_70 ?_
      exact hp m (e1 ▸ hm.1) (e1 ▸ hm.2.1) (e1 ▸ hm.2.2)
    · skip
      refine j_iload_n dX13_back_32 rfl rfl ?_
      refine j_bipush (v := nI 13) dX13_back_33 (by decide) ?_
      refine j_icmp_ge (tgt := 61) dX13_back_35 (by decide) (fun h35 => by exfalso; rw [nI_leI (by omega) (by omega)] at h35; omega) (fun h35 => ?_)
      refine j_aload_n dX13_back_38 rfl rfl ?_
      refine gR13_17 rfl dX13_back_39 (x1002 hX) ?_
      refine j_iload_n dX13_back_42 rfl rfl ?_
      refine j_aload_n dX13_back_43 rfl rfl ?_
      refine gR13_24 rfl dX13_back_44 (x1004 hX) ?_
      refine j_bipush (v := nI 13) dX13_back_47 (by decide) ?_
      refine j_iload_n dX13_back_49 rfl rfl ?_
      refine j_imul dX13_back_50 ?_
      rw [pk_mul]
      refine j_iload_n dX13_back_51 rfl rfl ?_
      refine j_iadd dX13_back_52 ?_
      rw [nI_add]
      refine j_iald rfl (inT (show ln 1004 = 39 from rfl) (by show (13 * x) + i < 39; omega) (by decide)) dX13_back_53 ?_
      rw [nI_clamp (by omega)]
      refine j_iast rfl (inT (show ln 1002 = 13 from rfl) (by show i < 13; omega) (by decide)) dX13_back_54 ?_
      rw [nI_clamp (by omega)]
      refine j_iinc1 (lv2 := [_, _, _]) dX13_back_55 rfl (by decide) rfl rfl ?_
      rw [nI_1]
      refine j_goto (tgt := 32) dX13_back_58 (by decide) ?_
      refine ih _ ⟨fun z hz => ?_, fun j hj => ?_, fun j hj => ?_⟩
      · rw [up_off _ _ hz]; exact hm.1 z hz
      · by_cases q : j = i
        · subst q; rw [up_at, hm.1 1004 (by decide)]
        · rw [up_ne _ _ (by omega)]; exact hm.2.1 j (by omega)
      · have := hj i (by omega)
        rw [up_ne _ _ (by omega)]; exact hm.2.2 j (fun k hk => hj k (by omega))
  exact key m3 ⟨fun _ _ => rfl, fun j hj => absurd hj (by omega), fun j _ => rfl⟩
end M13e
