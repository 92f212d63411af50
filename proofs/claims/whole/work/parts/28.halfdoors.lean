/-! the class: HalfDoors, its checks; questions on what is told and seen -/
def bad (x : Int32) (n : Nat) : Prop := x < 0 ∨ nI n ≤ x
section C11
variable {G : GG} {post : PT} {mi : MI} {ml : ML} {mr : MR} {dom : List Nat} {T : Nat} {t : TW} {v : Nat → Nat}
theorem c_isHouseG {j : Nat} (hX : XR mr) (hT : TT T) (hTn : mr 0 2 = some T) (hW : WT t) (hR : RX mi T t) (hj : j < t 0 3) (hp : post (some (.int 1)) mi ml mr dom) : CT G 1 0 0 yX11_isHouse cX11_isHouse 2 (some .boolean) [.ref 0, .int (nI j)] mi ml mr dom post := by
  have w := hW.1
  refine enter 0 (by decide) rfl rfl (fun X => ?_)
  refine j_iload_n dX11_isHouse_0 rfl rfl ?_
  refine j_if_lt (tgt := 19) dX11_isHouse_1 (by decide) (fun h1 => absurd h1 (nI_pos (by omega))) (fun _ => ?_)
  refine j_iload_n dX11_isHouse_4 rfl rfl ?_
  refine j_aload_n dX11_isHouse_5 rfl rfl ?_
  refine gR11_20 rfl dX11_isHouse_6 hTn ?_
  refine gI11_201 (kT0 hT) dX11_isHouse_9 ?_
  refine j_icmp_ge (tgt := 19) dX11_isHouse_12 (by decide) (fun h12 => absurd (by rw [hR.houses] at h12; exact h12) (nI_ge hj (by omega))) (fun _ => ?_)
  refine j_iconst (v := 1) dX11_isHouse_15 (by decide) ?_
  refine j_goto (tgt := 20) dX11_isHouse_16 (by decide) ?_
  refine j_zret rfl (by decide) dX11_isHouse_20 ?_
  exact hp
theorem c_isHouseB {x : Int32} (hX : XR mr) (hT : TT T) (hTn : mr 0 2 = some T) (hW : WT t) (hR : RX mi T t) (hb : bad x (t 0 3)) (hp : post (some (.int 0)) mi ml mr dom) : CT G 1 0 0 yX11_isHouse cX11_isHouse 2 (some .boolean) [.ref 0, .int x] mi ml mr dom post := by
  refine enter 0 (by decide) rfl rfl (fun X => ?_)
  refine j_iload_n dX11_isHouse_0 rfl rfl ?_
  refine j_if_lt (tgt := 19) dX11_isHouse_1 (by decide) (fun h1 => ?_) (fun h1 => ?_)
  · refine j_iconst (v := 0) dX11_isHouse_19 (by decide) ?_
    refine j_zret rfl (by decide) dX11_isHouse_20 ?_
    exact hp
  · refine j_iload_n dX11_isHouse_4 rfl rfl ?_
    refine j_aload_n dX11_isHouse_5 rfl rfl ?_
    refine gR11_20 rfl dX11_isHouse_6 hTn ?_
    refine gI11_201 (kT0 hT) dX11_isHouse_9 ?_
    refine j_icmp_ge (tgt := 19) dX11_isHouse_12 (by decide) (fun h12 => ?_) (fun h12 => ?_)
    · refine j_iconst (v := 0) dX11_isHouse_19 (by decide) ?_
      refine j_zret rfl (by decide) dX11_isHouse_20 ?_
      exact hp
    · exact absurd (by rw [hR.houses]; exact hb.resolve_left h1) h12
theorem c_isPersonG {j : Nat} (hX : XR mr) (hT : TT T) (hTn : mr 0 2 = some T) (hW : WT t) (hR : RX mi T t) (hj : j < t 0 5) (hp : post (some (.int 1)) mi ml mr dom) : CT G 1 0 0 yX11_isPerson cX11_isPerson 2 (some .boolean) [.ref 0, .int (nI j)] mi ml mr dom post := by
  have w := hW.1
  refine enter 0 (by decide) rfl rfl (fun X => ?_)
  refine j_iload_n dX11_isPerson_0 rfl rfl ?_
  refine j_if_lt (tgt := 19) dX11_isPerson_1 (by decide) (fun h1 => absurd h1 (nI_pos (by omega))) (fun _ => ?_)
  refine j_iload_n dX11_isPerson_4 rfl rfl ?_
  refine j_aload_n dX11_isPerson_5 rfl rfl ?_
  refine gR11_20 rfl dX11_isPerson_6 hTn ?_
  refine gI11_102 (kT0 hT) dX11_isPerson_9 ?_
  refine j_icmp_ge (tgt := 19) dX11_isPerson_12 (by decide) (fun h12 => absurd (by rw [hR.people] at h12; exact h12) (nI_ge hj (by omega))) (fun _ => ?_)
  refine j_iconst (v := 1) dX11_isPerson_15 (by decide) ?_
  refine j_goto (tgt := 20) dX11_isPerson_16 (by decide) ?_
  refine j_zret rfl (by decide) dX11_isPerson_20 ?_
  exact hp
theorem c_isPersonB {x : Int32} (hX : XR mr) (hT : TT T) (hTn : mr 0 2 = some T) (hW : WT t) (hR : RX mi T t) (hb : bad x (t 0 5)) (hp : post (some (.int 0)) mi ml mr dom) : CT G 1 0 0 yX11_isPerson cX11_isPerson 2 (some .boolean) [.ref 0, .int x] mi ml mr dom post := by
  refine enter 0 (by decide) rfl rfl (fun X => ?_)
  refine j_iload_n dX11_isPerson_0 rfl rfl ?_
  refine j_if_lt (tgt := 19) dX11_isPerson_1 (by decide) (fun h1 => ?_) (fun h1 => ?_)
  · refine j_iconst (v := 0) dX11_isPerson_19 (by decide) ?_
    refine j_zret rfl (by decide) dX11_isPerson_20 ?_
    exact hp
  · refine j_iload_n dX11_isPerson_4 rfl rfl ?_
    refine j_aload_n dX11_isPerson_5 rfl rfl ?_
    refine gR11_20 rfl dX11_isPerson_6 hTn ?_
    refine gI11_102 (kT0 hT) dX11_isPerson_9 ?_
    refine j_icmp_ge (tgt := 19) dX11_isPerson_12 (by decide) (fun h12 => ?_) (fun h12 => ?_)
    · refine j_iconst (v := 0) dX11_isPerson_19 (by decide) ?_
      refine j_zret rfl (by decide) dX11_isPerson_20 ?_
      exact hp
    · exact absurd (by rw [hR.people]; exact hb.resolve_left h1) h12
theorem c_isGoodG {j : Nat} (hX : XR mr) (hT : TT T) (hTn : mr 0 2 = some T) (hW : WT t) (hR : RX mi T t) (hj : j < t 0 6) (hp : post (some (.int 1)) mi ml mr dom) : CT G 1 0 0 yX11_isGood cX11_isGood 2 (some .boolean) [.ref 0, .int (nI j)] mi ml mr dom post := by
  have w := hW.1
  refine enter 0 (by decide) rfl rfl (fun X => ?_)
  refine j_iload_n dX11_isGood_0 rfl rfl ?_
  refine j_if_lt (tgt := 19) dX11_isGood_1 (by decide) (fun h1 => absurd h1 (nI_pos (by omega))) (fun _ => ?_)
  refine j_iload_n dX11_isGood_4 rfl rfl ?_
  refine j_aload_n dX11_isGood_5 rfl rfl ?_
  refine gR11_20 rfl dX11_isGood_6 hTn ?_
  refine gI11_123 (kT0 hT) dX11_isGood_9 ?_
  refine j_icmp_ge (tgt := 19) dX11_isGood_12 (by decide) (fun h12 => absurd (by rw [hR.goods] at h12; exact h12) (nI_ge hj (by omega))) (fun _ => ?_)
  refine j_iconst (v := 1) dX11_isGood_15 (by decide) ?_
  refine j_goto (tgt := 20) dX11_isGood_16 (by decide) ?_
  refine j_zret rfl (by decide) dX11_isGood_20 ?_
  exact hp
theorem c_isGoodB {x : Int32} (hX : XR mr) (hT : TT T) (hTn : mr 0 2 = some T) (hW : WT t) (hR : RX mi T t) (hb : bad x (t 0 6)) (hp : post (some (.int 0)) mi ml mr dom) : CT G 1 0 0 yX11_isGood cX11_isGood 2 (some .boolean) [.ref 0, .int x] mi ml mr dom post := by
  refine enter 0 (by decide) rfl rfl (fun X => ?_)
  refine j_iload_n dX11_isGood_0 rfl rfl ?_
  refine j_if_lt (tgt := 19) dX11_isGood_1 (by decide) (fun h1 => ?_) (fun h1 => ?_)
  · refine j_iconst (v := 0) dX11_isGood_19 (by decide) ?_
    refine j_zret rfl (by decide) dX11_isGood_20 ?_
    exact hp
  · refine j_iload_n dX11_isGood_4 rfl rfl ?_
    refine j_aload_n dX11_isGood_5 rfl rfl ?_
    refine gR11_20 rfl dX11_isGood_6 hTn ?_
    refine gI11_123 (kT0 hT) dX11_isGood_9 ?_
    refine j_icmp_ge (tgt := 19) dX11_isGood_12 (by decide) (fun h12 => ?_) (fun h12 => ?_)
    · refine j_iconst (v := 0) dX11_isGood_19 (by decide) ?_
      refine j_zret rfl (by decide) dX11_isGood_20 ?_
      exact hp
    · exact absurd (by rw [hR.goods]; exact hb.resolve_left h1) h12
theorem c_isVisitG {j : Nat} (hX : XR mr) (hT : TT T) (hTn : mr 0 2 = some T) (hW : WT t) (hR : RX mi T t) (hj : j < t 0 7) (hp : post (some (.int 1)) mi ml mr dom) : CT G 1 0 0 yX11_isVisit cX11_isVisit 2 (some .boolean) [.ref 0, .int (nI j)] mi ml mr dom post := by
  have w := hW.1
  refine enter 0 (by decide) rfl rfl (fun X => ?_)
  refine j_iload_n dX11_isVisit_0 rfl rfl ?_
  refine j_if_lt (tgt := 19) dX11_isVisit_1 (by decide) (fun h1 => absurd h1 (nI_pos (by omega))) (fun _ => ?_)
  refine j_iload_n dX11_isVisit_4 rfl rfl ?_
  refine j_aload_n dX11_isVisit_5 rfl rfl ?_
  refine gR11_20 rfl dX11_isVisit_6 hTn ?_
  refine gI11_231 (kT0 hT) dX11_isVisit_9 ?_
  refine j_icmp_ge (tgt := 19) dX11_isVisit_12 (by decide) (fun h12 => absurd (by rw [hR.visits] at h12; exact h12) (nI_ge hj (by omega))) (fun _ => ?_)
  refine j_iconst (v := 1) dX11_isVisit_15 (by decide) ?_
  refine j_goto (tgt := 20) dX11_isVisit_16 (by decide) ?_
  refine j_zret rfl (by decide) dX11_isVisit_20 ?_
  exact hp
theorem c_isVisitB {x : Int32} (hX : XR mr) (hT : TT T) (hTn : mr 0 2 = some T) (hW : WT t) (hR : RX mi T t) (hb : bad x (t 0 7)) (hp : post (some (.int 0)) mi ml mr dom) : CT G 1 0 0 yX11_isVisit cX11_isVisit 2 (some .boolean) [.ref 0, .int x] mi ml mr dom post := by
  refine enter 0 (by decide) rfl rfl (fun X => ?_)
  refine j_iload_n dX11_isVisit_0 rfl rfl ?_
  refine j_if_lt (tgt := 19) dX11_isVisit_1 (by decide) (fun h1 => ?_) (fun h1 => ?_)
  · refine j_iconst (v := 0) dX11_isVisit_19 (by decide) ?_
    refine j_zret rfl (by decide) dX11_isVisit_20 ?_
    exact hp
  · refine j_iload_n dX11_isVisit_4 rfl rfl ?_
    refine j_aload_n dX11_isVisit_5 rfl rfl ?_
    refine gR11_20 rfl dX11_isVisit_6 hTn ?_
    refine gI11_231 (kT0 hT) dX11_isVisit_9 ?_
    refine j_icmp_ge (tgt := 19) dX11_isVisit_12 (by decide) (fun h12 => ?_) (fun h12 => ?_)
    · refine j_iconst (v := 0) dX11_isVisit_19 (by decide) ?_
      refine j_zret rfl (by decide) dX11_isVisit_20 ?_
      exact hp
    · exact absurd (by rw [hR.visits]; exact hb.resolve_left h1) h12
theorem c_isPrintG {j : Nat} (hX : XR mr) (hT : TT T) (hTn : mr 0 2 = some T) (hW : WT t) (hR : RX mi T t) (hj : j < t 0 8) (hp : post (some (.int 1)) mi ml mr dom) : CT G 1 0 0 yX11_isPrint cX11_isPrint 2 (some .boolean) [.ref 0, .int (nI j)] mi ml mr dom post := by
  have w := hW.1
  refine enter 0 (by decide) rfl rfl (fun X => ?_)
  refine j_iload_n dX11_isPrint_0 rfl rfl ?_
  refine j_if_lt (tgt := 19) dX11_isPrint_1 (by decide) (fun h1 => absurd h1 (nI_pos (by omega))) (fun _ => ?_)
  refine j_iload_n dX11_isPrint_4 rfl rfl ?_
  refine j_aload_n dX11_isPrint_5 rfl rfl ?_
  refine gR11_20 rfl dX11_isPrint_6 hTn ?_
  refine gI11_274 (kT0 hT) dX11_isPrint_9 ?_
  refine j_icmp_ge (tgt := 19) dX11_isPrint_12 (by decide) (fun h12 => absurd (by rw [hR.prints] at h12; exact h12) (nI_ge hj (by omega))) (fun _ => ?_)
  refine j_iconst (v := 1) dX11_isPrint_15 (by decide) ?_
  refine j_goto (tgt := 20) dX11_isPrint_16 (by decide) ?_
  refine j_zret rfl (by decide) dX11_isPrint_20 ?_
  exact hp
theorem c_isPrintB {x : Int32} (hX : XR mr) (hT : TT T) (hTn : mr 0 2 = some T) (hW : WT t) (hR : RX mi T t) (hb : bad x (t 0 8)) (hp : post (some (.int 0)) mi ml mr dom) : CT G 1 0 0 yX11_isPrint cX11_isPrint 2 (some .boolean) [.ref 0, .int x] mi ml mr dom post := by
  refine enter 0 (by decide) rfl rfl (fun X => ?_)
  refine j_iload_n dX11_isPrint_0 rfl rfl ?_
  refine j_if_lt (tgt := 19) dX11_isPrint_1 (by decide) (fun h1 => ?_) (fun h1 => ?_)
  · refine j_iconst (v := 0) dX11_isPrint_19 (by decide) ?_
    refine j_zret rfl (by decide) dX11_isPrint_20 ?_
    exact hp
  · refine j_iload_n dX11_isPrint_4 rfl rfl ?_
    refine j_aload_n dX11_isPrint_5 rfl rfl ?_
    refine gR11_20 rfl dX11_isPrint_6 hTn ?_
    refine gI11_274 (kT0 hT) dX11_isPrint_9 ?_
    refine j_icmp_ge (tgt := 19) dX11_isPrint_12 (by decide) (fun h12 => ?_) (fun h12 => ?_)
    · refine j_iconst (v := 0) dX11_isPrint_19 (by decide) ?_
      refine j_zret rfl (by decide) dX11_isPrint_20 ?_
      exact hp
    · exact absurd (by rw [hR.prints]; exact hb.resolve_left h1) h12
theorem c_isHourG {j : Nat} (hj : j < 24) (hp : post (some (.int 1)) mi ml mr dom) : CT G 1 0 0 yX11_isHour cX11_isHour 1 (some .boolean) [.int (nI j)] mi ml mr dom post := by
  refine enter 0 (by decide) rfl rfl (fun X => ?_)
  refine j_iload_n dX11_isHour_0 rfl rfl ?_
  refine j_if_lt (tgt := 14) dX11_isHour_1 (by decide) (fun h1 => absurd h1 (nI_pos (by omega))) (fun _ => ?_)
  refine j_iload_n dX11_isHour_4 rfl rfl ?_
  refine j_bipush (v := 24) dX11_isHour_5 (by decide) ?_
  refine j_icmp_ge (tgt := 14) dX11_isHour_7 (by decide) (fun h7 => absurd h7 (nI_ge (b := 24) hj (by decide))) (fun _ => ?_)
  refine j_iconst (v := 1) dX11_isHour_10 (by decide) ?_
  refine j_goto (tgt := 15) dX11_isHour_11 (by decide) ?_
  refine j_zret rfl (by decide) dX11_isHour_15 ?_
  exact hp
theorem c_isHourB {x : Int32} (hb : bad x 24) (hp : post (some (.int 0)) mi ml mr dom) : CT G 1 0 0 yX11_isHour cX11_isHour 1 (some .boolean) [.int x] mi ml mr dom post := by
  refine enter 0 (by decide) rfl rfl (fun X => ?_)
  refine j_iload_n dX11_isHour_0 rfl rfl ?_
  refine j_if_lt (tgt := 14) dX11_isHour_1 (by decide) (fun h1 => ?_) (fun h1 => ?_)
  · refine j_iconst (v := 0) dX11_isHour_14 (by decide) ?_
    refine j_zret rfl (by decide) dX11_isHour_15 ?_
    exact hp
  · refine j_iload_n dX11_isHour_4 rfl rfl ?_
    refine j_bipush (v := 24) dX11_isHour_5 (by decide) ?_
    refine j_icmp_ge (tgt := 14) dX11_isHour_7 (by decide) (fun h7 => ?_) (fun h7 => ?_)
    · refine j_iconst (v := 0) dX11_isHour_14 (by decide) ?_
      refine j_zret rfl (by decide) dX11_isHour_15 ?_
      exact hp
    · exact absurd (hb.resolve_left h1) h7
theorem c_isSeedG {j : Nat} (hj : j < 65537) (hp : post (some (.int 1)) mi ml mr dom) : CT G 1 0 0 yX11_isSeed cX11_isSeed 1 (some .boolean) [.int (nI j)] mi ml mr dom post := by
  refine enter 0 (by decide) rfl rfl (fun X => ?_)
  refine j_iload_n dX11_isSeed_0 rfl rfl ?_
  refine j_if_lt (tgt := 15) dX11_isSeed_1 (by decide) (fun h1 => absurd h1 (nI_pos (by omega))) (fun _ => ?_)
  refine j_iload_n dX11_isSeed_4 rfl rfl ?_
  refine j_ldcw wd1186 dX11_isSeed_5 ?_
  refine j_icmp_gt (tgt := 15) dX11_isSeed_8 (by decide) (fun h8 => absurd h8 (nI_nlt (a := 65536) (b := j) (by omega) (by decide))) (fun _ => ?_)
  refine j_iconst (v := 1) dX11_isSeed_11 (by decide) ?_
  refine j_goto (tgt := 16) dX11_isSeed_12 (by decide) ?_
  refine j_zret rfl (by decide) dX11_isSeed_16 ?_
  exact hp
theorem c_isSeedB {x : Int32} (hb : bad x 65537) (hp : post (some (.int 0)) mi ml mr dom) : CT G 1 0 0 yX11_isSeed cX11_isSeed 1 (some .boolean) [.int x] mi ml mr dom post := by
  refine enter 0 (by decide) rfl rfl (fun X => ?_)
  refine j_iload_n dX11_isSeed_0 rfl rfl ?_
  refine j_if_lt (tgt := 15) dX11_isSeed_1 (by decide) (fun h1 => ?_) (fun h1 => ?_)
  · refine j_iconst (v := 0) dX11_isSeed_15 (by decide) ?_
    refine j_zret rfl (by decide) dX11_isSeed_16 ?_
    exact hp
  · refine j_iload_n dX11_isSeed_4 rfl rfl ?_
    refine j_ldcw wd1186 dX11_isSeed_5 ?_
    refine j_icmp_gt (tgt := 15) dX11_isSeed_8 (by decide) (fun h8 => ?_) (fun h8 => ?_)
    · refine j_iconst (v := 0) dX11_isSeed_15 (by decide) ?_
      refine j_zret rfl (by decide) dX11_isSeed_16 ?_
      exact hp
    · exact absurd (Int32.lt_of_lt_of_le (show (65536 : Int32) < nI 65537 by decide) (hb.resolve_left h1)) h8
theorem c_refuse {x : Int32} (hp : post (some (.int (-1))) (up mi 0 9 x) ml mr dom) : CT G 1 0 0 yX11_refuse cX11_refuse 2 (some .int) [.ref 0, .int x] mi ml mr dom post := by
  refine enter 0 (by decide) rfl rfl (fun X => ?_)
  refine j_aload_n dX11_refuse_0 rfl rfl ?_
  refine j_iload_n dX11_refuse_1 rfl rfl ?_
  refine pI11_62 rfl dX11_refuse_2 ?_
  refine j_iconst (v := -1) dX11_refuse_5 (by decide) ?_
  refine j_iret rfl dX11_refuse_6 ?_
  exact hp
theorem c_answer {x : Int32} (hp : post (some (.int x)) (up mi 0 9 0) ml mr dom) : CT G 1 0 0 yX11_answer cX11_answer 2 (some .int) [.ref 0, .int x] mi ml mr dom post := by
  refine enter 0 (by decide) rfl rfl (fun X => ?_)
  refine j_aload_n dX11_answer_0 rfl rfl ?_
  refine j_iconst (v := 0) dX11_answer_1 (by decide) ?_
  refine pI11_62 rfl dX11_answer_2 ?_
  refine j_iload_n dX11_answer_5 rfl rfl ?_
  refine j_iret rfl dX11_answer_6 ?_
  exact hp
theorem c_denied {x : Int32} (hp : post (some (.int 0)) (up mi 0 9 x) ml mr dom) : CT G 1 0 0 yX11_denied cX11_denied 2 (some .boolean) [.ref 0, .int x] mi ml mr dom post := by
  refine enter 0 (by decide) rfl rfl (fun X => ?_)
  refine j_aload_n dX11_denied_0 rfl rfl ?_
  refine j_iload_n dX11_denied_1 rfl rfl ?_
  refine pI11_62 rfl dX11_denied_2 ?_
  refine j_iconst (v := 0) dX11_denied_5 (by decide) ?_
  refine j_zret rfl (by decide) dX11_denied_6 ?_
  exact hp
theorem c_granted (hp : post (some (.int 1)) (up mi 0 9 0) ml mr dom) : CT G 1 0 0 yX11_granted cX11_granted 1 (some .boolean) [.ref 0] mi ml mr dom post := by
  refine enter 0 (by decide) rfl rfl (fun X => ?_)
  refine j_aload_n dX11_granted_0 rfl rfl ?_
  refine j_iconst (v := 0) dX11_granted_1 (by decide) ?_
  refine pI11_62 rfl dX11_granted_2 ?_
  refine j_iconst (v := 1) dX11_granted_5 (by decide) ?_
  refine j_zret rfl (by decide) dX11_granted_6 ?_
  exact hp
theorem cx_seenB1 {p h x : Int32} (hX : XR mr) (hT : TT T) (hTn : mr 0 2 = some T) (hW : WT t) (hR : RX mi T t) (hb : bad p (t 0 5)) (hp : post (some (.int (-1))) (up mi 0 9 1) ml mr dom) : CT G 2 0 0 yX11_seen cX11_seen 4 (some .int) [.ref 0, .int p, .int h, .int x] mi ml mr dom post := by
  have w := hW.1
  refine enter 0 (by decide) rfl rfl (fun X => ?_)
  refine j_aload_n dX11_seen_0 rfl rfl ?_
  refine j_iload_n dX11_seen_1 rfl rfl ?_
  refine cV11_129 (d1 := 1) rfl dX11_seen_2 (by decide) (Nat.le_of_ble_eq_true rfl) ?_
  refine c_isPersonB hX hT hTn hW hR hb ?_
  refine j_if_eq (tgt := 16) dX11_seen_5 (by decide) (fun _ => ?_) (fun h5 => absurd (by decide) h5)
  refine j_aload_n dX11_seen_16 rfl rfl ?_
  refine j_iconst (v := 1) dX11_seen_17 (by decide) ?_
  refine cV11_75 (d1 := 1) rfl dX11_seen_18 (by decide) (Nat.le_of_ble_eq_true rfl) ?_
  refine c_refuse ?_
  refine j_iret rfl dX11_seen_21 ?_
  exact hp
theorem cx_seenB2 {p : Nat} {h x : Int32} (hX : XR mr) (hT : TT T) (hTn : mr 0 2 = some T) (hW : WT t) (hR : RX mi T t) (h1 : p < t 0 5) (hb : bad h (t 0 3)) (hp : post (some (.int (-1))) (up mi 0 9 1) ml mr dom) : CT G 2 0 0 yX11_seen cX11_seen 4 (some .int) [.ref 0, .int (nI p), .int h, .int x] mi ml mr dom post := by
  have w := hW.1
  refine enter 0 (by decide) rfl rfl (fun X => ?_)
  refine j_aload_n dX11_seen_0 rfl rfl ?_
  refine j_iload_n dX11_seen_1 rfl rfl ?_
  refine cV11_129 (d1 := 1) rfl dX11_seen_2 (by decide) (Nat.le_of_ble_eq_true rfl) ?_
  refine c_isPersonG hX hT hTn hW hR h1 ?_
  refine j_if_eq (tgt := 16) dX11_seen_5 (by decide) (fun h5 => absurd h5 (by decide)) (fun _ => ?_)
  refine j_aload_n dX11_seen_8 rfl rfl ?_
  refine j_iload_n dX11_seen_9 rfl rfl ?_
  refine cV11_108 (d1 := 1) rfl dX11_seen_10 (by decide) (Nat.le_of_ble_eq_true rfl) ?_
  refine c_isHouseB hX hT hTn hW hR hb ?_
  refine j_if_ne (tgt := 22) dX11_seen_13 (by decide) (fun h13 => absurd (by decide) h13) (fun _ => ?_)
  refine j_aload_n dX11_seen_16 rfl rfl ?_
  refine j_iconst (v := 1) dX11_seen_17 (by decide) ?_
  refine cV11_75 (d1 := 1) rfl dX11_seen_18 (by decide) (Nat.le_of_ble_eq_true rfl) ?_
  refine c_refuse ?_
  refine j_iret rfl dX11_seen_21 ?_
  exact hp
theorem cx_seenB3 {p h : Nat} {x : Int32} (hX : XR mr) (hT : TT T) (hTn : mr 0 2 = some T) (hW : WT t) (hR : RX mi T t) (h1 : p < t 0 5) (h2 : h < t 0 3) (hb : bad x 24) (hp : post (some (.int (-1))) (up mi 0 9 2) ml mr dom) : CT G 2 0 0 yX11_seen cX11_seen 4 (some .int) [.ref 0, .int (nI p), .int (nI h), .int x] mi ml mr dom post := by
  have w := hW.1
  refine enter 0 (by decide) rfl rfl (fun X => ?_)
  refine j_aload_n dX11_seen_0 rfl rfl ?_
  refine j_iload_n dX11_seen_1 rfl rfl ?_
  refine cV11_129 (d1 := 1) rfl dX11_seen_2 (by decide) (Nat.le_of_ble_eq_true rfl) ?_
  refine c_isPersonG hX hT hTn hW hR h1 ?_
  refine j_if_eq (tgt := 16) dX11_seen_5 (by decide) (fun h5 => absurd h5 (by decide)) (fun _ => ?_)
  refine j_aload_n dX11_seen_8 rfl rfl ?_
  refine j_iload_n dX11_seen_9 rfl rfl ?_
  refine cV11_108 (d1 := 1) rfl dX11_seen_10 (by decide) (Nat.le_of_ble_eq_true rfl) ?_
  refine c_isHouseG hX hT hTn hW hR h2 ?_
  refine j_if_ne (tgt := 22) dX11_seen_13 (by decide) (fun _ => ?_) (fun h13 => absurd h13 (by decide))
  refine j_iload_n dX11_seen_22 rfl rfl ?_
  refine cS11_182 (d1 := 1) dX11_seen_23 (by decide) (Nat.le_of_ble_eq_true rfl) ?_
  refine c_isHourB hb ?_
  refine j_if_ne (tgt := 35) dX11_seen_26 (by decide) (fun h26 => absurd (by decide) h26) (fun _ => ?_)
  refine j_aload_n dX11_seen_29 rfl rfl ?_
  refine j_iconst (v := 2) dX11_seen_30 (by decide) ?_
  refine cV11_75 (d1 := 1) rfl dX11_seen_31 (by decide) (Nat.le_of_ble_eq_true rfl) ?_
  refine c_refuse ?_
  refine j_iret rfl dX11_seen_34 ?_
  exact hp
theorem cx_seen {p h x : Nat} (hX : XR mr) (hT : TT T) (hTn : mr 0 2 = some T) (hW : WT t) (hR : RX mi T t) (h1 : p < t 0 5) (h2 : h < t 0 3) (h3 : x < 24) (hp : post (some (.int (nI (shw (t 4 p) (t 6 p) (t 1 h) (isD t x))))) (up mi 0 9 0) ml mr dom) : CT G 3 0 0 yX11_seen cX11_seen 4 (some .int) [.ref 0, .int (nI p), .int (nI h), .int (nI x)] mi ml mr dom post := by
  have w := hW.1
  have P1 := pv hX hT hW hR h1
  refine enter 0 (by decide) rfl rfl (fun X => ?_)
  refine j_aload_n dX11_seen_0 rfl rfl ?_
  refine j_iload_n dX11_seen_1 rfl rfl ?_
  refine cV11_129 (d1 := 1) rfl dX11_seen_2 (by decide) (Nat.le_of_ble_eq_true rfl) ?_
  refine c_isPersonG hX hT hTn hW hR h1 ?_
  refine j_if_eq (tgt := 16) dX11_seen_5 (by decide) (fun h5 => absurd h5 (by decide)) (fun _ => ?_)
  refine j_aload_n dX11_seen_8 rfl rfl ?_
  refine j_iload_n dX11_seen_9 rfl rfl ?_
  refine cV11_108 (d1 := 1) rfl dX11_seen_10 (by decide) (Nat.le_of_ble_eq_true rfl) ?_
  refine c_isHouseG hX hT hTn hW hR h2 ?_
  refine j_if_ne (tgt := 22) dX11_seen_13 (by decide) (fun _ => ?_) (fun h13 => absurd h13 (by decide))
  refine j_iload_n dX11_seen_22 rfl rfl ?_
  refine cS11_182 (d1 := 1) dX11_seen_23 (by decide) (Nat.le_of_ble_eq_true rfl) ?_
  refine c_isHourG h3 ?_
  refine j_if_ne (tgt := 35) dX11_seen_26 (by decide) (fun _ => ?_) (fun h26 => absurd h26 (by decide))
  refine j_aload_n dX11_seen_35 rfl rfl ?_
  refine j_aload_n dX11_seen_36 rfl rfl ?_
  refine gR11_20 rfl dX11_seen_37 hTn ?_
  refine gR11_132 (kT0 hT) dX11_seen_40 (xT_persons hX hT) ?_
  refine j_iload_n dX11_seen_43 rfl rfl ?_
  refine j_aald (C := RX3) (kT5 hT) (by decide) (fun _ => rfl) (inT (lT5 hT) (show p < 6 by omega) (by omega)) (mr_nI (by omega) (xT_p hX hT (show p < 6 by omega))) dX11_seen_44 (by decide) ?_
  refine j_aload_n dX11_seen_45 rfl rfl ?_
  refine gR11_20 rfl dX11_seen_46 hTn ?_
  refine gR11_112 (kT0 hT) dX11_seen_49 (xT_sills hX hT) ?_
  refine j_iload_n dX11_seen_52 rfl rfl ?_
  refine j_iald (kT1 hT) (inT (lT1 hT) (show h < 6 by omega) (by omega)) dX11_seen_53 ?_
  rw [nI_clamp (by omega), hR.sill h2]
  refine j_aload_n dX11_seen_54 rfl rfl ?_
  refine gR11_20 rfl dX11_seen_55 hTn ?_
  refine j_iload_n dX11_seen_58 rfl rfl ?_
  refine cV11_185 (d1 := 1) (kT0 hT) dX11_seen_59 (by decide) (Nat.le_of_ble_eq_true rfl) ?_
  refine c_isDay hT hW hR (by omega) ?_
  refine cV11_188 (d1 := 2) (kP hT (show p < 6 by omega)) dX11_seen_62 (by decide) (Nat.le_of_ble_eq_true rfl) ?_
  refine c_shows P1.1 P1.2.2.2.2.1 P1.2.2.2.2.2.1 (by have := P1.2.2.2.2.2.2.2.1; omega) (by have := P1.2.2.2.2.2.2.2.2.1; omega) (by have := hW.si h2; omega) ?_
  refine cV11_105 (d1 := 1) rfl dX11_seen_65 (by decide) (Nat.le_of_ble_eq_true rfl) ?_
  refine c_answer ?_
  refine j_iret rfl dX11_seen_68 ?_
  exact hp
theorem cx_fineB1 {p h x : Int32} (hX : XR mr) (hT : TT T) (hTn : mr 0 2 = some T) (hW : WT t) (hR : RX mi T t) (hb : bad p (t 0 5)) (hp : post (some (.int (-1))) (up mi 0 9 1) ml mr dom) : CT G 2 0 0 yX11_fine cX11_fine 4 (some .int) [.ref 0, .int p, .int h, .int x] mi ml mr dom post := by
  have w := hW.1
  refine enter 0 (by decide) rfl rfl (fun X => ?_)
  refine j_aload_n dX11_fine_0 rfl rfl ?_
  refine j_iload_n dX11_fine_1 rfl rfl ?_
  refine cV11_129 (d1 := 1) rfl dX11_fine_2 (by decide) (Nat.le_of_ble_eq_true rfl) ?_
  refine c_isPersonB hX hT hTn hW hR hb ?_
  refine j_if_eq (tgt := 16) dX11_fine_5 (by decide) (fun _ => ?_) (fun h5 => absurd (by decide) h5)
  refine j_aload_n dX11_fine_16 rfl rfl ?_
  refine j_iconst (v := 1) dX11_fine_17 (by decide) ?_
  refine cV11_75 (d1 := 1) rfl dX11_fine_18 (by decide) (Nat.le_of_ble_eq_true rfl) ?_
  refine c_refuse ?_
  refine j_iret rfl dX11_fine_21 ?_
  exact hp
theorem cx_fineB2 {p : Nat} {h x : Int32} (hX : XR mr) (hT : TT T) (hTn : mr 0 2 = some T) (hW : WT t) (hR : RX mi T t) (h1 : p < t 0 5) (hb : bad h (t 0 3)) (hp : post (some (.int (-1))) (up mi 0 9 1) ml mr dom) : CT G 2 0 0 yX11_fine cX11_fine 4 (some .int) [.ref 0, .int (nI p), .int h, .int x] mi ml mr dom post := by
  have w := hW.1
  refine enter 0 (by decide) rfl rfl (fun X => ?_)
  refine j_aload_n dX11_fine_0 rfl rfl ?_
  refine j_iload_n dX11_fine_1 rfl rfl ?_
  refine cV11_129 (d1 := 1) rfl dX11_fine_2 (by decide) (Nat.le_of_ble_eq_true rfl) ?_
  refine c_isPersonG hX hT hTn hW hR h1 ?_
  refine j_if_eq (tgt := 16) dX11_fine_5 (by decide) (fun h5 => absurd h5 (by decide)) (fun _ => ?_)
  refine j_aload_n dX11_fine_8 rfl rfl ?_
  refine j_iload_n dX11_fine_9 rfl rfl ?_
  refine cV11_108 (d1 := 1) rfl dX11_fine_10 (by decide) (Nat.le_of_ble_eq_true rfl) ?_
  refine c_isHouseB hX hT hTn hW hR hb ?_
  refine j_if_ne (tgt := 22) dX11_fine_13 (by decide) (fun h13 => absurd (by decide) h13) (fun _ => ?_)
  refine j_aload_n dX11_fine_16 rfl rfl ?_
  refine j_iconst (v := 1) dX11_fine_17 (by decide) ?_
  refine cV11_75 (d1 := 1) rfl dX11_fine_18 (by decide) (Nat.le_of_ble_eq_true rfl) ?_
  refine c_refuse ?_
  refine j_iret rfl dX11_fine_21 ?_
  exact hp
theorem cx_fineB3 {p h : Nat} {x : Int32} (hX : XR mr) (hT : TT T) (hTn : mr 0 2 = some T) (hW : WT t) (hR : RX mi T t) (h1 : p < t 0 5) (h2 : h < t 0 3) (hb : bad x 24) (hp : post (some (.int (-1))) (up mi 0 9 2) ml mr dom) : CT G 2 0 0 yX11_fine cX11_fine 4 (some .int) [.ref 0, .int (nI p), .int (nI h), .int x] mi ml mr dom post := by
  have w := hW.1
  refine enter 0 (by decide) rfl rfl (fun X => ?_)
  refine j_aload_n dX11_fine_0 rfl rfl ?_
  refine j_iload_n dX11_fine_1 rfl rfl ?_
  refine cV11_129 (d1 := 1) rfl dX11_fine_2 (by decide) (Nat.le_of_ble_eq_true rfl) ?_
  refine c_isPersonG hX hT hTn hW hR h1 ?_
  refine j_if_eq (tgt := 16) dX11_fine_5 (by decide) (fun h5 => absurd h5 (by decide)) (fun _ => ?_)
  refine j_aload_n dX11_fine_8 rfl rfl ?_
  refine j_iload_n dX11_fine_9 rfl rfl ?_
  refine cV11_108 (d1 := 1) rfl dX11_fine_10 (by decide) (Nat.le_of_ble_eq_true rfl) ?_
  refine c_isHouseG hX hT hTn hW hR h2 ?_
  refine j_if_ne (tgt := 22) dX11_fine_13 (by decide) (fun _ => ?_) (fun h13 => absurd h13 (by decide))
  refine j_iload_n dX11_fine_22 rfl rfl ?_
  refine cS11_182 (d1 := 1) dX11_fine_23 (by decide) (Nat.le_of_ble_eq_true rfl) ?_
  refine c_isHourB hb ?_
  refine j_if_ne (tgt := 35) dX11_fine_26 (by decide) (fun h26 => absurd (by decide) h26) (fun _ => ?_)
  refine j_aload_n dX11_fine_29 rfl rfl ?_
  refine j_iconst (v := 2) dX11_fine_30 (by decide) ?_
  refine cV11_75 (d1 := 1) rfl dX11_fine_31 (by decide) (Nat.le_of_ble_eq_true rfl) ?_
  refine c_refuse ?_
  refine j_iret rfl dX11_fine_34 ?_
  exact hp
theorem cx_fine {p h x : Nat} (hX : XR mr) (hT : TT T) (hTn : mr 0 2 = some T) (hW : WT t) (hR : RX mi T t) (h1 : p < t 0 5) (h2 : h < t 0 3) (h3 : x < 24) (hp : post (some (.int (nI (fineO (t 4 p) (t 6 p) (t 1 h) (isD t x))))) (up mi 0 9 0) ml mr dom) : CT G 3 0 0 yX11_fine cX11_fine 4 (some .int) [.ref 0, .int (nI p), .int (nI h), .int (nI x)] mi ml mr dom post := by
  have w := hW.1
  have P1 := pv hX hT hW hR h1
  refine enter 0 (by decide) rfl rfl (fun X => ?_)
  refine j_aload_n dX11_fine_0 rfl rfl ?_
  refine j_iload_n dX11_fine_1 rfl rfl ?_
  refine cV11_129 (d1 := 1) rfl dX11_fine_2 (by decide) (Nat.le_of_ble_eq_true rfl) ?_
  refine c_isPersonG hX hT hTn hW hR h1 ?_
  refine j_if_eq (tgt := 16) dX11_fine_5 (by decide) (fun h5 => absurd h5 (by decide)) (fun _ => ?_)
  refine j_aload_n dX11_fine_8 rfl rfl ?_
  refine j_iload_n dX11_fine_9 rfl rfl ?_
  refine cV11_108 (d1 := 1) rfl dX11_fine_10 (by decide) (Nat.le_of_ble_eq_true rfl) ?_
  refine c_isHouseG hX hT hTn hW hR h2 ?_
  refine j_if_ne (tgt := 22) dX11_fine_13 (by decide) (fun _ => ?_) (fun h13 => absurd h13 (by decide))
  refine j_iload_n dX11_fine_22 rfl rfl ?_
  refine cS11_182 (d1 := 1) dX11_fine_23 (by decide) (Nat.le_of_ble_eq_true rfl) ?_
  refine c_isHourG h3 ?_
  refine j_if_ne (tgt := 35) dX11_fine_26 (by decide) (fun _ => ?_) (fun h26 => absurd h26 (by decide))
  refine j_aload_n dX11_fine_35 rfl rfl ?_
  refine j_aload_n dX11_fine_36 rfl rfl ?_
  refine gR11_20 rfl dX11_fine_37 hTn ?_
  refine gR11_132 (kT0 hT) dX11_fine_40 (xT_persons hX hT) ?_
  refine j_iload_n dX11_fine_43 rfl rfl ?_
  refine j_aald (C := RX3) (kT5 hT) (by decide) (fun _ => rfl) (inT (lT5 hT) (show p < 6 by omega) (by omega)) (mr_nI (by omega) (xT_p hX hT (show p < 6 by omega))) dX11_fine_44 (by decide) ?_
  refine j_aload_n dX11_fine_45 rfl rfl ?_
  refine gR11_20 rfl dX11_fine_46 hTn ?_
  refine gR11_112 (kT0 hT) dX11_fine_49 (xT_sills hX hT) ?_
  refine j_iload_n dX11_fine_52 rfl rfl ?_
  refine j_iald (kT1 hT) (inT (lT1 hT) (show h < 6 by omega) (by omega)) dX11_fine_53 ?_
  rw [nI_clamp (by omega), hR.sill h2]
  refine j_aload_n dX11_fine_54 rfl rfl ?_
  refine gR11_20 rfl dX11_fine_55 hTn ?_
  refine j_iload_n dX11_fine_58 rfl rfl ?_
  refine cV11_185 (d1 := 1) (kT0 hT) dX11_fine_59 (by decide) (Nat.le_of_ble_eq_true rfl) ?_
  refine c_isDay hT hW hR (by omega) ?_
  refine cV11_204 (d1 := 2) (kP hT (show p < 6 by omega)) dX11_fine_62 (by decide) (Nat.le_of_ble_eq_true rfl) ?_
  refine c_fineOver P1.1 P1.2.2.2.2.1 P1.2.2.2.2.2.1 (by have := P1.2.2.2.2.2.2.2.1; omega) (by have := P1.2.2.2.2.2.2.2.2.1; omega) (by have := hW.si h2; omega) ?_
  refine cV11_105 (d1 := 1) rfl dX11_fine_65 (by decide) (Nat.le_of_ble_eq_true rfl) ?_
  refine c_answer ?_
  refine j_iret rfl dX11_fine_68 ?_
  exact hp
theorem cx_takenB1 {p h x : Int32} (hX : XR mr) (hT : TT T) (hTn : mr 0 2 = some T) (hW : WT t) (hR : RX mi T t) (hb : bad p (t 0 5)) (hp : post (some (.int (-1))) (up mi 0 9 1) ml mr dom) : CT G 2 0 0 yX11_taken cX11_taken 4 (some .int) [.ref 0, .int p, .int h, .int x] mi ml mr dom post := by
  have w := hW.1
  refine enter 0 (by decide) rfl rfl (fun X => ?_)
  refine j_aload_n dX11_taken_0 rfl rfl ?_
  refine j_iload_n dX11_taken_1 rfl rfl ?_
  refine cV11_129 (d1 := 1) rfl dX11_taken_2 (by decide) (Nat.le_of_ble_eq_true rfl) ?_
  refine c_isPersonB hX hT hTn hW hR hb ?_
  refine j_if_eq (tgt := 16) dX11_taken_5 (by decide) (fun _ => ?_) (fun h5 => absurd (by decide) h5)
  refine j_aload_n dX11_taken_16 rfl rfl ?_
  refine j_iconst (v := 1) dX11_taken_17 (by decide) ?_
  refine cV11_75 (d1 := 1) rfl dX11_taken_18 (by decide) (Nat.le_of_ble_eq_true rfl) ?_
  refine c_refuse ?_
  refine j_iret rfl dX11_taken_21 ?_
  exact hp
theorem cx_takenB2 {p : Nat} {h x : Int32} (hX : XR mr) (hT : TT T) (hTn : mr 0 2 = some T) (hW : WT t) (hR : RX mi T t) (h1 : p < t 0 5) (hb : bad h (t 0 3)) (hp : post (some (.int (-1))) (up mi 0 9 1) ml mr dom) : CT G 2 0 0 yX11_taken cX11_taken 4 (some .int) [.ref 0, .int (nI p), .int h, .int x] mi ml mr dom post := by
  have w := hW.1
  refine enter 0 (by decide) rfl rfl (fun X => ?_)
  refine j_aload_n dX11_taken_0 rfl rfl ?_
  refine j_iload_n dX11_taken_1 rfl rfl ?_
  refine cV11_129 (d1 := 1) rfl dX11_taken_2 (by decide) (Nat.le_of_ble_eq_true rfl) ?_
  refine c_isPersonG hX hT hTn hW hR h1 ?_
  refine j_if_eq (tgt := 16) dX11_taken_5 (by decide) (fun h5 => absurd h5 (by decide)) (fun _ => ?_)
  refine j_aload_n dX11_taken_8 rfl rfl ?_
  refine j_iload_n dX11_taken_9 rfl rfl ?_
  refine cV11_108 (d1 := 1) rfl dX11_taken_10 (by decide) (Nat.le_of_ble_eq_true rfl) ?_
  refine c_isHouseB hX hT hTn hW hR hb ?_
  refine j_if_ne (tgt := 22) dX11_taken_13 (by decide) (fun h13 => absurd (by decide) h13) (fun _ => ?_)
  refine j_aload_n dX11_taken_16 rfl rfl ?_
  refine j_iconst (v := 1) dX11_taken_17 (by decide) ?_
  refine cV11_75 (d1 := 1) rfl dX11_taken_18 (by decide) (Nat.le_of_ble_eq_true rfl) ?_
  refine c_refuse ?_
  refine j_iret rfl dX11_taken_21 ?_
  exact hp
theorem cx_takenB3 {p h : Nat} {x : Int32} (hX : XR mr) (hT : TT T) (hTn : mr 0 2 = some T) (hW : WT t) (hR : RX mi T t) (h1 : p < t 0 5) (h2 : h < t 0 3) (hb : bad x 24) (hp : post (some (.int (-1))) (up mi 0 9 2) ml mr dom) : CT G 2 0 0 yX11_taken cX11_taken 4 (some .int) [.ref 0, .int (nI p), .int (nI h), .int x] mi ml mr dom post := by
  have w := hW.1
  refine enter 0 (by decide) rfl rfl (fun X => ?_)
  refine j_aload_n dX11_taken_0 rfl rfl ?_
  refine j_iload_n dX11_taken_1 rfl rfl ?_
  refine cV11_129 (d1 := 1) rfl dX11_taken_2 (by decide) (Nat.le_of_ble_eq_true rfl) ?_
  refine c_isPersonG hX hT hTn hW hR h1 ?_
  refine j_if_eq (tgt := 16) dX11_taken_5 (by decide) (fun h5 => absurd h5 (by decide)) (fun _ => ?_)
  refine j_aload_n dX11_taken_8 rfl rfl ?_
  refine j_iload_n dX11_taken_9 rfl rfl ?_
  refine cV11_108 (d1 := 1) rfl dX11_taken_10 (by decide) (Nat.le_of_ble_eq_true rfl) ?_
  refine c_isHouseG hX hT hTn hW hR h2 ?_
  refine j_if_ne (tgt := 22) dX11_taken_13 (by decide) (fun _ => ?_) (fun h13 => absurd h13 (by decide))
  refine j_iload_n dX11_taken_22 rfl rfl ?_
  refine cS11_182 (d1 := 1) dX11_taken_23 (by decide) (Nat.le_of_ble_eq_true rfl) ?_
  refine c_isHourB hb ?_
  refine j_if_ne (tgt := 35) dX11_taken_26 (by decide) (fun h26 => absurd (by decide) h26) (fun _ => ?_)
  refine j_aload_n dX11_taken_29 rfl rfl ?_
  refine j_iconst (v := 2) dX11_taken_30 (by decide) ?_
  refine cV11_75 (d1 := 1) rfl dX11_taken_31 (by decide) (Nat.le_of_ble_eq_true rfl) ?_
  refine c_refuse ?_
  refine j_iret rfl dX11_taken_34 ?_
  exact hp
theorem cx_taken {p h x : Nat} (hX : XR mr) (hT : TT T) (hTn : mr 0 2 = some T) (hW : WT t) (hR : RX mi T t) (h1 : p < t 0 5) (h2 : h < t 0 3) (h3 : x < 24) (hp : post (some (.int (nI (dbl t p (t 1 h) (isD t x))))) (up mi 0 9 0) ml mr dom) : CT G 5 0 0 yX11_taken cX11_taken 4 (some .int) [.ref 0, .int (nI p), .int (nI h), .int (nI x)] mi ml mr dom post := by
  have w := hW.1
  have P1 := pv hX hT hW hR h1
  refine enter 0 (by decide) rfl rfl (fun X => ?_)
  refine j_aload_n dX11_taken_0 rfl rfl ?_
  refine j_iload_n dX11_taken_1 rfl rfl ?_
  refine cV11_129 (d1 := 1) rfl dX11_taken_2 (by decide) (Nat.le_of_ble_eq_true rfl) ?_
  refine c_isPersonG hX hT hTn hW hR h1 ?_
  refine j_if_eq (tgt := 16) dX11_taken_5 (by decide) (fun h5 => absurd h5 (by decide)) (fun _ => ?_)
  refine j_aload_n dX11_taken_8 rfl rfl ?_
  refine j_iload_n dX11_taken_9 rfl rfl ?_
  refine cV11_108 (d1 := 1) rfl dX11_taken_10 (by decide) (Nat.le_of_ble_eq_true rfl) ?_
  refine c_isHouseG hX hT hTn hW hR h2 ?_
  refine j_if_ne (tgt := 22) dX11_taken_13 (by decide) (fun _ => ?_) (fun h13 => absurd h13 (by decide))
  refine j_iload_n dX11_taken_22 rfl rfl ?_
  refine cS11_182 (d1 := 1) dX11_taken_23 (by decide) (Nat.le_of_ble_eq_true rfl) ?_
  refine c_isHourG h3 ?_
  refine j_if_ne (tgt := 35) dX11_taken_26 (by decide) (fun _ => ?_) (fun h26 => absurd h26 (by decide))
  refine j_aload_n dX11_taken_35 rfl rfl ?_
  refine j_aload_n dX11_taken_36 rfl rfl ?_
  refine gR11_20 rfl dX11_taken_37 hTn ?_
  refine j_iload_n dX11_taken_40 rfl rfl ?_
  refine j_aload_n dX11_taken_41 rfl rfl ?_
  refine gR11_20 rfl dX11_taken_42 hTn ?_
  refine gR11_112 (kT0 hT) dX11_taken_45 (xT_sills hX hT) ?_
  refine j_iload_n dX11_taken_48 rfl rfl ?_
  refine j_iald (kT1 hT) (inT (lT1 hT) (show h < 6 by omega) (by omega)) dX11_taken_49 ?_
  rw [nI_clamp (by omega), hR.sill h2]
  refine j_aload_n dX11_taken_50 rfl rfl ?_
  refine gR11_20 rfl dX11_taken_51 hTn ?_
  refine j_iload_n dX11_taken_54 rfl rfl ?_
  refine cV11_185 (d1 := 1) (kT0 hT) dX11_taken_55 (by decide) (Nat.le_of_ble_eq_true rfl) ?_
  refine c_isDay hT hW hR (by omega) ?_
  refine cV11_192 (d1 := 4) (kT0 hT) dX11_taken_58 (by decide) (Nat.le_of_ble_eq_true rfl) ?_
  refine c_doublesOf hX hT hW hR h1 (by have := hW.si h2; omega) ?_
  refine cV11_105 (d1 := 1) rfl dX11_taken_61 (by decide) (Nat.le_of_ble_eq_true rfl) ?_
  refine c_answer ?_
  refine j_iret rfl dX11_taken_64 ?_
  exact hp
theorem cx_lightN {x : Int32} (hX : XR mr) (hT : TT T) (hTn : mr 0 2 = some T) (hW : WT t) (hR : RX mi T t) (h0 : mi T 0 = 0) (hp : post (some (.int (-1))) (up mi 0 9 1) ml mr dom) : CT G 2 0 0 yX11_light cX11_light 2 (some .int) [.ref 0, .int x] mi ml mr dom post := by
  have w := hW.1
  refine enter 0 (by decide) rfl rfl (fun X => ?_)
  refine j_aload_n dX11_light_0 rfl rfl ?_
  refine gR11_20 rfl dX11_light_1 hTn ?_
  refine gI11_178 (kT0 hT) dX11_light_4 ?_
  refine j_if_ne (tgt := 16) dX11_light_7 (by decide) (fun h7 => absurd h7 (fun q => q h0)) (fun _ => ?_)
  refine j_aload_n dX11_light_10 rfl rfl ?_
  refine j_iconst (v := 1) dX11_light_11 (by decide) ?_
  refine cV11_75 (d1 := 1) rfl dX11_light_12 (by decide) (Nat.le_of_ble_eq_true rfl) ?_
  refine c_refuse ?_
  refine j_iret rfl dX11_light_15 ?_
  exact hp
theorem cx_lightB {x : Int32} (hX : XR mr) (hT : TT T) (hTn : mr 0 2 = some T) (hW : WT t) (hR : RX mi T t) (h0 : mi T 0 = 1) (hb : bad x 24) (hp : post (some (.int (-1))) (up mi 0 9 2) ml mr dom) : CT G 2 0 0 yX11_light cX11_light 2 (some .int) [.ref 0, .int x] mi ml mr dom post := by
  have w := hW.1
  refine enter 0 (by decide) rfl rfl (fun X => ?_)
  refine j_aload_n dX11_light_0 rfl rfl ?_
  refine gR11_20 rfl dX11_light_1 hTn ?_
  refine gI11_178 (kT0 hT) dX11_light_4 ?_
  refine j_if_ne (tgt := 16) dX11_light_7 (by decide) (fun _ => ?_) (fun h7 => absurd h7 (by rw [h0]; decide))
  refine j_iload_n dX11_light_16 rfl rfl ?_
  refine cS11_182 (d1 := 1) dX11_light_17 (by decide) (Nat.le_of_ble_eq_true rfl) ?_
  refine c_isHourB hb ?_
  refine j_if_ne (tgt := 29) dX11_light_20 (by decide) (fun h20 => absurd (by decide) h20) (fun _ => ?_)
  refine j_aload_n dX11_light_23 rfl rfl ?_
  refine j_iconst (v := 2) dX11_light_24 (by decide) ?_
  refine cV11_75 (d1 := 1) rfl dX11_light_25 (by decide) (Nat.le_of_ble_eq_true rfl) ?_
  refine c_refuse ?_
  refine j_iret rfl dX11_light_28 ?_
  exact hp
theorem cx_light {x : Nat} (hX : XR mr) (hT : TT T) (hTn : mr 0 2 = some T) (hW : WT t) (hR : RX mi T t) (h0 : mi T 0 = 1) (h3 : x < 24) (hp : post (some (.int (nI (bN (isD t x))))) (up mi 0 9 0) ml mr dom) : CT G 2 0 0 yX11_light cX11_light 2 (some .int) [.ref 0, .int (nI x)] mi ml mr dom post := by
  have w := hW.1
  refine enter 0 (by decide) rfl rfl (fun X => ?_)
  refine j_aload_n dX11_light_0 rfl rfl ?_
  refine gR11_20 rfl dX11_light_1 hTn ?_
  refine gI11_178 (kT0 hT) dX11_light_4 ?_
  refine j_if_ne (tgt := 16) dX11_light_7 (by decide) (fun _ => ?_) (fun h7 => absurd h7 (by rw [h0]; decide))
  refine j_iload_n dX11_light_16 rfl rfl ?_
  refine cS11_182 (d1 := 1) dX11_light_17 (by decide) (Nat.le_of_ble_eq_true rfl) ?_
  refine c_isHourG h3 ?_
  refine j_if_ne (tgt := 29) dX11_light_20 (by decide) (fun _ => ?_) (fun h20 => absurd h20 (by decide))
  refine j_aload_n dX11_light_29 rfl rfl ?_
  refine j_aload_n dX11_light_30 rfl rfl ?_
  refine gR11_20 rfl dX11_light_31 hTn ?_
  refine j_iload_n dX11_light_34 rfl rfl ?_
  refine cV11_185 (d1 := 1) (kT0 hT) dX11_light_35 (by decide) (Nat.le_of_ble_eq_true rfl) ?_
  refine c_isDay hT hW hR (by omega) ?_
  refine j_if_eq (tgt := 45) dX11_light_38 (by decide) (fun h38 => ?_) (fun h38 => ?_)
  · refine j_iconst (v := 0) dX11_light_45 (by decide) ?_
    refine cV11_105 (d1 := 1) rfl dX11_light_46 (by decide) (Nat.le_of_ble_eq_true rfl) ?_
    refine c_answer ?_
    refine j_iret rfl dX11_light_49 ?_
    rw [bN_eq0] at h38
    first
      | (rw [h38] at hp; exact hp)
      | (rw [Bool.not_eq_false] at h38; rw [h38] at hp; exact hp)
  · refine j_iconst (v := 1) dX11_light_41 (by decide) ?_
    refine j_goto (tgt := 46) dX11_light_42 (by decide) ?_
    refine cV11_105 (d1 := 1) rfl dX11_light_46 (by decide) (Nat.le_of_ble_eq_true rfl) ?_
    refine c_answer ?_
    refine j_iret rfl dX11_light_49 ?_
    rw [bN_eq0] at h38
    first
      | (rw [h38] at hp; exact hp)
      | (rw [Bool.not_eq_false] at h38; rw [h38] at hp; exact hp)
theorem cx_houseB1 {h x : Int32} (hX : XR mr) (hT : TT T) (hTn : mr 0 2 = some T) (hW : WT t) (hR : RX mi T t) (hb : bad h (t 0 3)) (hp : post (some (.int (-1))) (up mi 0 9 1) ml mr dom) : CT G 2 0 0 yX11_house cX11_house 3 (some .int) [.ref 0, .int h, .int x] mi ml mr dom post := by
  have w := hW.1
  refine enter 0 (by decide) rfl rfl (fun X => ?_)
  refine j_aload_n dX11_house_0 rfl rfl ?_
  refine j_iload_n dX11_house_1 rfl rfl ?_
  refine cV11_108 (d1 := 1) rfl dX11_house_2 (by decide) (Nat.le_of_ble_eq_true rfl) ?_
  refine c_isHouseB hX hT hTn hW hR hb ?_
  refine j_if_eq (tgt := 17) dX11_house_5 (by decide) (fun _ => ?_) (fun h5 => absurd (by decide) h5)
  refine j_aload_n dX11_house_17 rfl rfl ?_
  refine j_iconst (v := 1) dX11_house_18 (by decide) ?_
  refine cV11_75 (d1 := 1) rfl dX11_house_19 (by decide) (Nat.le_of_ble_eq_true rfl) ?_
  refine c_refuse ?_
  refine j_iret rfl dX11_house_22 ?_
  exact hp
theorem cx_houseB2 {h : Nat} {x : Int32} (hX : XR mr) (hT : TT T) (hTn : mr 0 2 = some T) (hW : WT t) (hR : RX mi T t) (h1 : h < t 0 3) (hb : bad x 4) (hp : post (some (.int (-1))) (up mi 0 9 1) ml mr dom) : CT G 2 0 0 yX11_house cX11_house 3 (some .int) [.ref 0, .int (nI h), .int x] mi ml mr dom post := by
  have w := hW.1
  refine enter 0 (by decide) rfl rfl (fun X => ?_)
  refine j_aload_n dX11_house_0 rfl rfl ?_
  refine j_iload_n dX11_house_1 rfl rfl ?_
  refine cV11_108 (d1 := 1) rfl dX11_house_2 (by decide) (Nat.le_of_ble_eq_true rfl) ?_
  refine c_isHouseG hX hT hTn hW hR h1 ?_
  refine j_if_eq (tgt := 17) dX11_house_5 (by decide) (fun h5 => absurd h5 (by decide)) (fun _ => ?_)
  refine j_iload_n dX11_house_8 rfl rfl ?_
  refine j_if_lt (tgt := 17) dX11_house_9 (by decide) (fun h9 => ?_) (fun h9 => ?_)
  · refine j_aload_n dX11_house_17 rfl rfl ?_
    refine j_iconst (v := 1) dX11_house_18 (by decide) ?_
    refine cV11_75 (d1 := 1) rfl dX11_house_19 (by decide) (Nat.le_of_ble_eq_true rfl) ?_
    refine c_refuse ?_
    refine j_iret rfl dX11_house_22 ?_
    exact hp
  · refine j_iload_n dX11_house_12 rfl rfl ?_
    refine j_iconst (v := 3) dX11_house_13 (by decide) ?_
    refine j_icmp_le (tgt := 23) dX11_house_14 (by decide) (fun h14 => ?_) (fun h14 => ?_)
    · exact absurd (Int32.le_trans (hb.resolve_left h9) h14) (by decide)
    · refine j_aload_n dX11_house_17 rfl rfl ?_
      refine j_iconst (v := 1) dX11_house_18 (by decide) ?_
      refine cV11_75 (d1 := 1) rfl dX11_house_19 (by decide) (Nat.le_of_ble_eq_true rfl) ?_
      refine c_refuse ?_
      refine j_iret rfl dX11_house_22 ?_
      exact hp
theorem cx_house0 {h : Nat} (hX : XR mr) (hT : TT T) (hTn : mr 0 2 = some T) (hW : WT t) (hR : RX mi T t) (h1 : h < t 0 3) (hp : post (some (.int (nI (t 1 h)))) (up mi 0 9 0) ml mr dom) : CT G 2 0 0 yX11_house cX11_house 3 (some .int) [.ref 0, .int (nI h), .int 0] mi ml mr dom post := by
  have w := hW.1
  refine enter 0 (by decide) rfl rfl (fun X => ?_)
  refine j_aload_n dX11_house_0 rfl rfl ?_
  refine j_iload_n dX11_house_1 rfl rfl ?_
  refine cV11_108 (d1 := 1) rfl dX11_house_2 (by decide) (Nat.le_of_ble_eq_true rfl) ?_
  refine c_isHouseG hX hT hTn hW hR h1 ?_
  refine j_if_eq (tgt := 17) dX11_house_5 (by decide) (fun h5 => absurd h5 (by decide)) (fun _ => ?_)
  refine j_iload_n dX11_house_8 rfl rfl ?_
  refine j_if_lt (tgt := 17) dX11_house_9 (by decide) (fun h9 => absurd h9 (by decide)) (fun _ => ?_)
  refine j_iload_n dX11_house_12 rfl rfl ?_
  refine j_iconst (v := 3) dX11_house_13 (by decide) ?_
  refine j_icmp_le (tgt := 23) dX11_house_14 (by decide) (fun _ => ?_) (fun h14 => absurd (by decide) h14)
  refine j_iload_n dX11_house_23 rfl rfl ?_
  refine j_if_ne (tgt := 41) dX11_house_24 (by decide) (fun h24 => absurd (by decide) h24) (fun _ => ?_)
  refine j_aload_n dX11_house_27 rfl rfl ?_
  refine j_aload_n dX11_house_28 rfl rfl ?_
  refine gR11_20 rfl dX11_house_29 hTn ?_
  refine gR11_112 (kT0 hT) dX11_house_32 (xT_sills hX hT) ?_
  refine j_iload_n dX11_house_35 rfl rfl ?_
  refine j_iald (kT1 hT) (inT (lT1 hT) (show h < 6 by omega) (by omega)) dX11_house_36 ?_
  rw [nI_clamp (by omega), hR.sill h1]
  refine cV11_105 (d1 := 1) rfl dX11_house_37 (by decide) (Nat.le_of_ble_eq_true rfl) ?_
  refine c_answer ?_
  refine j_iret rfl dX11_house_40 ?_
  exact hp
theorem cx_house1 {h : Nat} (hX : XR mr) (hT : TT T) (hTn : mr 0 2 = some T) (hW : WT t) (hR : RX mi T t) (h1 : h < t 0 3) (hL : 60 ≤ t 0 2) (hp : post (some (.int (nI (t 0 2 - t 1 h)))) (up mi 0 9 0) ml mr dom) : CT G 2 0 0 yX11_house cX11_house 3 (some .int) [.ref 0, .int (nI h), .int 1] mi ml mr dom post := by
  have w := hW.1
  refine enter 0 (by decide) rfl rfl (fun X => ?_)
  refine j_aload_n dX11_house_0 rfl rfl ?_
  refine j_iload_n dX11_house_1 rfl rfl ?_
  refine cV11_108 (d1 := 1) rfl dX11_house_2 (by decide) (Nat.le_of_ble_eq_true rfl) ?_
  refine c_isHouseG hX hT hTn hW hR h1 ?_
  refine j_if_eq (tgt := 17) dX11_house_5 (by decide) (fun h5 => absurd h5 (by decide)) (fun _ => ?_)
  refine j_iload_n dX11_house_8 rfl rfl ?_
  refine j_if_lt (tgt := 17) dX11_house_9 (by decide) (fun h9 => absurd h9 (by decide)) (fun _ => ?_)
  refine j_iload_n dX11_house_12 rfl rfl ?_
  refine j_iconst (v := 3) dX11_house_13 (by decide) ?_
  refine j_icmp_le (tgt := 23) dX11_house_14 (by decide) (fun _ => ?_) (fun h14 => absurd (by decide) h14)
  refine j_iload_n dX11_house_23 rfl rfl ?_
  refine j_if_ne (tgt := 41) dX11_house_24 (by decide) (fun _ => ?_) (fun h24 => absurd h24 (by decide))
  refine j_iload_n dX11_house_41 rfl rfl ?_
  refine j_iconst (v := 1) dX11_house_42 (by decide) ?_
  refine j_icmp_ne (tgt := 59) dX11_house_43 (by decide) (fun h43 => absurd (by decide) h43) (fun _ => ?_)
  refine j_aload_n dX11_house_46 rfl rfl ?_
  refine j_aload_n dX11_house_47 rfl rfl ?_
  refine gR11_20 rfl dX11_house_48 hTn ?_
  refine j_iload_n dX11_house_51 rfl rfl ?_
  refine cV11_116 (d1 := 1) (kT0 hT) dX11_house_52 (by decide) (Nat.le_of_ble_eq_true rfl) ?_
  refine c_gap hX hT hW hR hL h1 ?_
  refine cV11_105 (d1 := 1) rfl dX11_house_55 (by decide) (Nat.le_of_ble_eq_true rfl) ?_
  refine c_answer ?_
  refine j_iret rfl dX11_house_58 ?_
  exact hp
theorem cx_house2 {h : Nat} (hX : XR mr) (hT : TT T) (hTn : mr 0 2 = some T) (hW : WT t) (hR : RX mi T t) (h1 : h < t 0 3) (hv : ∀ i, i < t 0 5 → mi 9 i = nI (v i)) (hvb : ∀ i, i < t 0 5 → v i < 2 ^ 31) (hp : post (some (.int (nI (bst (fun p => decide (v p = h)) (t 0 5))))) (up mi 0 9 0) ml mr dom) : CT G 3 0 0 yX11_house cX11_house 3 (some .int) [.ref 0, .int (nI h), .int 2] mi ml mr dom post := by
  have w := hW.1
  refine enter 0 (by decide) rfl rfl (fun X => ?_)
  refine j_aload_n dX11_house_0 rfl rfl ?_
  refine j_iload_n dX11_house_1 rfl rfl ?_
  refine cV11_108 (d1 := 1) rfl dX11_house_2 (by decide) (Nat.le_of_ble_eq_true rfl) ?_
  refine c_isHouseG hX hT hTn hW hR h1 ?_
  refine j_if_eq (tgt := 17) dX11_house_5 (by decide) (fun h5 => absurd h5 (by decide)) (fun _ => ?_)
  refine j_iload_n dX11_house_8 rfl rfl ?_
  refine j_if_lt (tgt := 17) dX11_house_9 (by decide) (fun h9 => absurd h9 (by decide)) (fun _ => ?_)
  refine j_iload_n dX11_house_12 rfl rfl ?_
  refine j_iconst (v := 3) dX11_house_13 (by decide) ?_
  refine j_icmp_le (tgt := 23) dX11_house_14 (by decide) (fun _ => ?_) (fun h14 => absurd (by decide) h14)
  refine j_iload_n dX11_house_23 rfl rfl ?_
  refine j_if_ne (tgt := 41) dX11_house_24 (by decide) (fun _ => ?_) (fun h24 => absurd h24 (by decide))
  refine j_iload_n dX11_house_41 rfl rfl ?_
  refine j_iconst (v := 1) dX11_house_42 (by decide) ?_
  refine j_icmp_ne (tgt := 59) dX11_house_43 (by decide) (fun _ => ?_) (fun h43 => absurd h43 (by decide))
  refine j_aload_n dX11_house_59 rfl rfl ?_
  refine j_iload_n dX11_house_60 rfl rfl ?_
  refine j_iconst (v := 2) dX11_house_61 (by decide) ?_
  refine j_icmp_ne (tgt := 83) dX11_house_62 (by decide) (fun h62 => absurd (by decide) h62) (fun _ => ?_)
  refine j_aload_n dX11_house_65 rfl rfl ?_
  refine gR11_37 rfl dX11_house_66 (x_present hX) ?_
  refine j_iload_n dX11_house_69 rfl rfl ?_
  refine j_aload_n dX11_house_70 rfl rfl ?_
  refine gR11_20 rfl dX11_house_71 hTn ?_
  refine gI11_102 (kT0 hT) dX11_house_74 ?_
  refine cV11_119 (d1 := 2) rfl dX11_house_77 (by decide) (Nat.le_of_ble_eq_true rfl) ?_
  rw [hR.people]
  refine c_peopleAt hX (by omega) (by omega) hv hvb ?_
  refine j_goto (tgt := 98) dX11_house_80 (by decide) ?_
  refine cV11_105 (d1 := 1) rfl dX11_house_98 (by decide) (Nat.le_of_ble_eq_true rfl) ?_
  refine c_answer ?_
  refine j_iret rfl dX11_house_101 ?_
  exact hp
theorem cx_house3 {h : Nat} (hX : XR mr) (hT : TT T) (hTn : mr 0 2 = some T) (hW : WT t) (hR : RX mi T t) (h1 : h < t 0 3) (hG : GP mi t v) (hp : post (some (.int (nI (bst (fun g => decide (v (6 + g) = h)) (t 0 6))))) (up mi 0 9 0) ml mr dom) : CT G 3 0 0 yX11_house cX11_house 3 (some .int) [.ref 0, .int (nI h), .int 3] mi ml mr dom post := by
  have w := hW.1
  refine enter 0 (by decide) rfl rfl (fun X => ?_)
  refine j_aload_n dX11_house_0 rfl rfl ?_
  refine j_iload_n dX11_house_1 rfl rfl ?_
  refine cV11_108 (d1 := 1) rfl dX11_house_2 (by decide) (Nat.le_of_ble_eq_true rfl) ?_
  refine c_isHouseG hX hT hTn hW hR h1 ?_
  refine j_if_eq (tgt := 17) dX11_house_5 (by decide) (fun h5 => absurd h5 (by decide)) (fun _ => ?_)
  refine j_iload_n dX11_house_8 rfl rfl ?_
  refine j_if_lt (tgt := 17) dX11_house_9 (by decide) (fun h9 => absurd h9 (by decide)) (fun _ => ?_)
  refine j_iload_n dX11_house_12 rfl rfl ?_
  refine j_iconst (v := 3) dX11_house_13 (by decide) ?_
  refine j_icmp_le (tgt := 23) dX11_house_14 (by decide) (fun _ => ?_) (fun h14 => absurd (by decide) h14)
  refine j_iload_n dX11_house_23 rfl rfl ?_
  refine j_if_ne (tgt := 41) dX11_house_24 (by decide) (fun _ => ?_) (fun h24 => absurd h24 (by decide))
  refine j_iload_n dX11_house_41 rfl rfl ?_
  refine j_iconst (v := 1) dX11_house_42 (by decide) ?_
  refine j_icmp_ne (tgt := 59) dX11_house_43 (by decide) (fun _ => ?_) (fun h43 => absurd h43 (by decide))
  refine j_aload_n dX11_house_59 rfl rfl ?_
  refine j_iload_n dX11_house_60 rfl rfl ?_
  refine j_iconst (v := 2) dX11_house_61 (by decide) ?_
  refine j_icmp_ne (tgt := 83) dX11_house_62 (by decide) (fun _ => ?_) (fun h62 => absurd h62 (by decide))
  refine j_aload_n dX11_house_83 rfl rfl ?_
  refine gR11_37 rfl dX11_house_84 (x_present hX) ?_
  refine j_iload_n dX11_house_87 rfl rfl ?_
  refine j_aload_n dX11_house_88 rfl rfl ?_
  refine gR11_20 rfl dX11_house_89 hTn ?_
  refine gI11_123 (kT0 hT) dX11_house_92 ?_
  refine cV11_126 (d1 := 2) rfl dX11_house_95 (by decide) (Nat.le_of_ble_eq_true rfl) ?_
  rw [hR.goods]
  refine c_goodsAt hX (by omega) (by omega) (fun i hi => (hG i hi).1) (fun i hi => by have := (hG i hi).2; omega) ?_
  refine cV11_105 (d1 := 1) rfl dX11_house_98 (by decide) (Nat.le_of_ble_eq_true rfl) ?_
  refine c_answer ?_
  refine j_iret rfl dX11_house_101 ?_
  exact hp
theorem cx_personB1 {p x : Int32} (hX : XR mr) (hT : TT T) (hTn : mr 0 2 = some T) (hW : WT t) (hR : RX mi T t) (hb : bad p (t 0 5)) (hp : post (some (.int (-1))) (up mi 0 9 1) ml mr dom) : CT G 2 0 0 yX11_person cX11_person 4 (some .int) [.ref 0, .int p, .int x] mi ml mr dom post := by
  have w := hW.1
  refine enter 1 (by decide) rfl rfl (fun X => ?_)
  refine j_aload_n dX11_person_0 rfl rfl ?_
  refine j_iload_n dX11_person_1 rfl rfl ?_
  refine cV11_129 (d1 := 1) rfl dX11_person_2 (by decide) (Nat.le_of_ble_eq_true rfl) ?_
  refine c_isPersonB hX hT hTn hW hR hb ?_
  refine j_if_eq (tgt := 17) dX11_person_5 (by decide) (fun _ => ?_) (fun h5 => absurd (by decide) h5)
  refine j_aload_n dX11_person_17 rfl rfl ?_
  refine j_iconst (v := 1) dX11_person_18 (by decide) ?_
  refine cV11_75 (d1 := 1) rfl dX11_person_19 (by decide) (Nat.le_of_ble_eq_true rfl) ?_
  refine c_refuse ?_
  refine j_iret rfl dX11_person_22 ?_
  exact hp
theorem cx_personB2 {p : Nat} {x : Int32} (hX : XR mr) (hT : TT T) (hTn : mr 0 2 = some T) (hW : WT t) (hR : RX mi T t) (h1 : p < t 0 5) (hb : bad x 5) (hp : post (some (.int (-1))) (up mi 0 9 1) ml mr dom) : CT G 2 0 0 yX11_person cX11_person 4 (some .int) [.ref 0, .int (nI p), .int x] mi ml mr dom post := by
  have w := hW.1
  refine enter 1 (by decide) rfl rfl (fun X => ?_)
  refine j_aload_n dX11_person_0 rfl rfl ?_
  refine j_iload_n dX11_person_1 rfl rfl ?_
  refine cV11_129 (d1 := 1) rfl dX11_person_2 (by decide) (Nat.le_of_ble_eq_true rfl) ?_
  refine c_isPersonG hX hT hTn hW hR h1 ?_
  refine j_if_eq (tgt := 17) dX11_person_5 (by decide) (fun h5 => absurd h5 (by decide)) (fun _ => ?_)
  refine j_iload_n dX11_person_8 rfl rfl ?_
  refine j_if_lt (tgt := 17) dX11_person_9 (by decide) (fun h9 => ?_) (fun h9 => ?_)
  · refine j_aload_n dX11_person_17 rfl rfl ?_
    refine j_iconst (v := 1) dX11_person_18 (by decide) ?_
    refine cV11_75 (d1 := 1) rfl dX11_person_19 (by decide) (Nat.le_of_ble_eq_true rfl) ?_
    refine c_refuse ?_
    refine j_iret rfl dX11_person_22 ?_
    exact hp
  · refine j_iload_n dX11_person_12 rfl rfl ?_
    refine j_iconst (v := 4) dX11_person_13 (by decide) ?_
    refine j_icmp_le (tgt := 23) dX11_person_14 (by decide) (fun h14 => ?_) (fun h14 => ?_)
    · exact absurd (Int32.le_trans (hb.resolve_left h9) h14) (by decide)
    · refine j_aload_n dX11_person_17 rfl rfl ?_
      refine j_iconst (v := 1) dX11_person_18 (by decide) ?_
      refine cV11_75 (d1 := 1) rfl dX11_person_19 (by decide) (Nat.le_of_ble_eq_true rfl) ?_
      refine c_refuse ?_
      refine j_iret rfl dX11_person_22 ?_
      exact hp
theorem cx_person0 {p : Nat} (hX : XR mr) (hT : TT T) (hTn : mr 0 2 = some T) (hW : WT t) (hR : RX mi T t) (h1 : p < t 0 5)  (hp : post (some (.int (nI (t 4 p)))) (up mi 0 9 0) ml mr dom) : CT G 2 0 0 yX11_person cX11_person 4 (some .int) [.ref 0, .int (nI p), .int 0] mi ml mr dom post := by
  have w := hW.1
  have P1 := pv hX hT hW hR h1
  refine enter 1 (by decide) rfl rfl (fun X => ?_)
  refine j_aload_n dX11_person_0 rfl rfl ?_
  refine j_iload_n dX11_person_1 rfl rfl ?_
  refine cV11_129 (d1 := 1) rfl dX11_person_2 (by decide) (Nat.le_of_ble_eq_true rfl) ?_
  refine c_isPersonG hX hT hTn hW hR h1 ?_
  refine j_if_eq (tgt := 17) dX11_person_5 (by decide) (fun h5 => absurd h5 (by decide)) (fun _ => ?_)
  refine j_iload_n dX11_person_8 rfl rfl ?_
  refine j_if_lt (tgt := 17) dX11_person_9 (by decide) (fun h9 => absurd h9 (by decide)) (fun _ => ?_)
  refine j_iload_n dX11_person_12 rfl rfl ?_
  refine j_iconst (v := 4) dX11_person_13 (by decide) ?_
  refine j_icmp_le (tgt := 23) dX11_person_14 (by decide) (fun _ => ?_) (fun h14 => absurd (by decide) h14)
  refine j_aload_n dX11_person_23 rfl rfl ?_
  refine gR11_20 rfl dX11_person_24 hTn ?_
  refine gR11_132 (kT0 hT) dX11_person_27 (xT_persons hX hT) ?_
  refine j_iload_n dX11_person_30 rfl rfl ?_
  refine j_aald (C := RX3) (kT5 hT) (by decide) (fun _ => rfl) (inT (lT5 hT) (show p < 6 by omega) (by omega)) (mr_nI (by omega) (xT_p hX hT (show p < 6 by omega))) dX11_person_31 (by decide) ?_
  refine j_astore_n (lv2 := [_, _, _, _]) dX11_person_32 rfl (by decide) rfl rfl ?_
  refine j_iload_n dX11_person_33 rfl rfl ?_
  refine j_tableIn (tgt := 64) dX11_person_34 (by decide) (by decide) (by rfl) (by decide) ?_
  refine j_aload_n dX11_person_64 rfl rfl ?_
  refine j_aload_n dX11_person_65 rfl rfl ?_
  refine gI11_136 (kP hT (show p < 6 by omega)) dX11_person_66 ?_
  rw [(hR.pe h1).1]
  refine cV11_105 (d1 := 1) rfl dX11_person_69 (by decide) (Nat.le_of_ble_eq_true rfl) ?_
  refine c_answer ?_
  refine j_iret rfl dX11_person_72 ?_
  exact hp
theorem cx_person1 {p : Nat} (hX : XR mr) (hT : TT T) (hTn : mr 0 2 = some T) (hW : WT t) (hR : RX mi T t) (h1 : p < t 0 5)  (hp : post (some (.int (nI (t 5 p)))) (up mi 0 9 0) ml mr dom) : CT G 2 0 0 yX11_person cX11_person 4 (some .int) [.ref 0, .int (nI p), .int 1] mi ml mr dom post := by
  have w := hW.1
  have P1 := pv hX hT hW hR h1
  refine enter 1 (by decide) rfl rfl (fun X => ?_)
  refine j_aload_n dX11_person_0 rfl rfl ?_
  refine j_iload_n dX11_person_1 rfl rfl ?_
  refine cV11_129 (d1 := 1) rfl dX11_person_2 (by decide) (Nat.le_of_ble_eq_true rfl) ?_
  refine c_isPersonG hX hT hTn hW hR h1 ?_
  refine j_if_eq (tgt := 17) dX11_person_5 (by decide) (fun h5 => absurd h5 (by decide)) (fun _ => ?_)
  refine j_iload_n dX11_person_8 rfl rfl ?_
  refine j_if_lt (tgt := 17) dX11_person_9 (by decide) (fun h9 => absurd h9 (by decide)) (fun _ => ?_)
  refine j_iload_n dX11_person_12 rfl rfl ?_
  refine j_iconst (v := 4) dX11_person_13 (by decide) ?_
  refine j_icmp_le (tgt := 23) dX11_person_14 (by decide) (fun _ => ?_) (fun h14 => absurd (by decide) h14)
  refine j_aload_n dX11_person_23 rfl rfl ?_
  refine gR11_20 rfl dX11_person_24 hTn ?_
  refine gR11_132 (kT0 hT) dX11_person_27 (xT_persons hX hT) ?_
  refine j_iload_n dX11_person_30 rfl rfl ?_
  refine j_aald (C := RX3) (kT5 hT) (by decide) (fun _ => rfl) (inT (lT5 hT) (show p < 6 by omega) (by omega)) (mr_nI (by omega) (xT_p hX hT (show p < 6 by omega))) dX11_person_31 (by decide) ?_
  refine j_astore_n (lv2 := [_, _, _, _]) dX11_person_32 rfl (by decide) rfl rfl ?_
  refine j_iload_n dX11_person_33 rfl rfl ?_
  refine j_tableIn (tgt := 73) dX11_person_34 (by decide) (by decide) (by rfl) (by decide) ?_
  refine j_aload_n dX11_person_73 rfl rfl ?_
  refine j_aload_n dX11_person_74 rfl rfl ?_
  refine gI11_141 (kP hT (show p < 6 by omega)) dX11_person_75 ?_
  rw [(hR.pe h1).2.1]
  refine cV11_105 (d1 := 1) rfl dX11_person_78 (by decide) (Nat.le_of_ble_eq_true rfl) ?_
  refine c_answer ?_
  refine j_iret rfl dX11_person_81 ?_
  exact hp
theorem cx_person2 {p : Nat} (hX : XR mr) (hT : TT T) (hTn : mr 0 2 = some T) (hW : WT t) (hR : RX mi T t) (h1 : p < t 0 5)  (hp : post (some (.int (nI (t 6 p)))) (up mi 0 9 0) ml mr dom) : CT G 2 0 0 yX11_person cX11_person 4 (some .int) [.ref 0, .int (nI p), .int 2] mi ml mr dom post := by
  have w := hW.1
  have P1 := pv hX hT hW hR h1
  refine enter 1 (by decide) rfl rfl (fun X => ?_)
  refine j_aload_n dX11_person_0 rfl rfl ?_
  refine j_iload_n dX11_person_1 rfl rfl ?_
  refine cV11_129 (d1 := 1) rfl dX11_person_2 (by decide) (Nat.le_of_ble_eq_true rfl) ?_
  refine c_isPersonG hX hT hTn hW hR h1 ?_
  refine j_if_eq (tgt := 17) dX11_person_5 (by decide) (fun h5 => absurd h5 (by decide)) (fun _ => ?_)
  refine j_iload_n dX11_person_8 rfl rfl ?_
  refine j_if_lt (tgt := 17) dX11_person_9 (by decide) (fun h9 => absurd h9 (by decide)) (fun _ => ?_)
  refine j_iload_n dX11_person_12 rfl rfl ?_
  refine j_iconst (v := 4) dX11_person_13 (by decide) ?_
  refine j_icmp_le (tgt := 23) dX11_person_14 (by decide) (fun _ => ?_) (fun h14 => absurd (by decide) h14)
  refine j_aload_n dX11_person_23 rfl rfl ?_
  refine gR11_20 rfl dX11_person_24 hTn ?_
  refine gR11_132 (kT0 hT) dX11_person_27 (xT_persons hX hT) ?_
  refine j_iload_n dX11_person_30 rfl rfl ?_
  refine j_aald (C := RX3) (kT5 hT) (by decide) (fun _ => rfl) (inT (lT5 hT) (show p < 6 by omega) (by omega)) (mr_nI (by omega) (xT_p hX hT (show p < 6 by omega))) dX11_person_31 (by decide) ?_
  refine j_astore_n (lv2 := [_, _, _, _]) dX11_person_32 rfl (by decide) rfl rfl ?_
  refine j_iload_n dX11_person_33 rfl rfl ?_
  refine j_tableIn (tgt := 82) dX11_person_34 (by decide) (by decide) (by rfl) (by decide) ?_
  refine j_aload_n dX11_person_82 rfl rfl ?_
  refine j_aload_n dX11_person_83 rfl rfl ?_
  refine gI11_144 (kP hT (show p < 6 by omega)) dX11_person_84 ?_
  rw [(hR.pe h1).2.2.1]
  refine cV11_105 (d1 := 1) rfl dX11_person_87 (by decide) (Nat.le_of_ble_eq_true rfl) ?_
  refine c_answer ?_
  refine j_iret rfl dX11_person_90 ?_
  exact hp
theorem cx_person3 {p : Nat} (hX : XR mr) (hT : TT T) (hTn : mr 0 2 = some T) (hW : WT t) (hR : RX mi T t) (h1 : p < t 0 5) (hv : mi 9 p = nI (v p)) (hp : post (some (.int (nI (v p)))) (up mi 0 9 0) ml mr dom) : CT G 2 0 0 yX11_person cX11_person 4 (some .int) [.ref 0, .int (nI p), .int 3] mi ml mr dom post := by
  have w := hW.1
  have P1 := pv hX hT hW hR h1
  refine enter 1 (by decide) rfl rfl (fun X => ?_)
  refine j_aload_n dX11_person_0 rfl rfl ?_
  refine j_iload_n dX11_person_1 rfl rfl ?_
  refine cV11_129 (d1 := 1) rfl dX11_person_2 (by decide) (Nat.le_of_ble_eq_true rfl) ?_
  refine c_isPersonG hX hT hTn hW hR h1 ?_
  refine j_if_eq (tgt := 17) dX11_person_5 (by decide) (fun h5 => absurd h5 (by decide)) (fun _ => ?_)
  refine j_iload_n dX11_person_8 rfl rfl ?_
  refine j_if_lt (tgt := 17) dX11_person_9 (by decide) (fun h9 => absurd h9 (by decide)) (fun _ => ?_)
  refine j_iload_n dX11_person_12 rfl rfl ?_
  refine j_iconst (v := 4) dX11_person_13 (by decide) ?_
  refine j_icmp_le (tgt := 23) dX11_person_14 (by decide) (fun _ => ?_) (fun h14 => absurd (by decide) h14)
  refine j_aload_n dX11_person_23 rfl rfl ?_
  refine gR11_20 rfl dX11_person_24 hTn ?_
  refine gR11_132 (kT0 hT) dX11_person_27 (xT_persons hX hT) ?_
  refine j_iload_n dX11_person_30 rfl rfl ?_
  refine j_aald (C := RX3) (kT5 hT) (by decide) (fun _ => rfl) (inT (lT5 hT) (show p < 6 by omega) (by omega)) (mr_nI (by omega) (xT_p hX hT (show p < 6 by omega))) dX11_person_31 (by decide) ?_
  refine j_astore_n (lv2 := [_, _, _, _]) dX11_person_32 rfl (by decide) rfl rfl ?_
  refine j_iload_n dX11_person_33 rfl rfl ?_
  refine j_tableIn (tgt := 91) dX11_person_34 (by decide) (by decide) (by rfl) (by decide) ?_
  refine j_aload_n dX11_person_91 rfl rfl ?_
  refine j_aload_n dX11_person_92 rfl rfl ?_
  refine gR11_37 rfl dX11_person_93 (x_present hX) ?_
  refine j_iload_n dX11_person_96 rfl rfl ?_
  refine cV11_147 (d1 := 1) rfl dX11_person_97 (by decide) (Nat.le_of_ble_eq_true rfl) ?_
  refine tX4_placeOf hX (vp_in_nI (show p < 13 by omega) (by omega)) ?_
  rw [nI_clamp (by omega), hv]
  refine cV11_105 (d1 := 1) rfl dX11_person_100 (by decide) (Nat.le_of_ble_eq_true rfl) ?_
  refine c_answer ?_
  refine j_iret rfl dX11_person_103 ?_
  exact hp
theorem cx_person4 {p : Nat} (hX : XR mr) (hT : TT T) (hTn : mr 0 2 = some T) (hW : WT t) (hR : RX mi T t) (h1 : p < t 0 5)  (hp : post (some (.int (nI (str t p)))) (up mi 0 9 0) ml mr dom) : CT G 2 0 0 yX11_person cX11_person 4 (some .int) [.ref 0, .int (nI p), .int 4] mi ml mr dom post := by
  have w := hW.1
  have P1 := pv hX hT hW hR h1
  refine enter 1 (by decide) rfl rfl (fun X => ?_)
  refine j_aload_n dX11_person_0 rfl rfl ?_
  refine j_iload_n dX11_person_1 rfl rfl ?_
  refine cV11_129 (d1 := 1) rfl dX11_person_2 (by decide) (Nat.le_of_ble_eq_true rfl) ?_
  refine c_isPersonG hX hT hTn hW hR h1 ?_
  refine j_if_eq (tgt := 17) dX11_person_5 (by decide) (fun h5 => absurd h5 (by decide)) (fun _ => ?_)
  refine j_iload_n dX11_person_8 rfl rfl ?_
  refine j_if_lt (tgt := 17) dX11_person_9 (by decide) (fun h9 => absurd h9 (by decide)) (fun _ => ?_)
  refine j_iload_n dX11_person_12 rfl rfl ?_
  refine j_iconst (v := 4) dX11_person_13 (by decide) ?_
  refine j_icmp_le (tgt := 23) dX11_person_14 (by decide) (fun _ => ?_) (fun h14 => absurd (by decide) h14)
  refine j_aload_n dX11_person_23 rfl rfl ?_
  refine gR11_20 rfl dX11_person_24 hTn ?_
  refine gR11_132 (kT0 hT) dX11_person_27 (xT_persons hX hT) ?_
  refine j_iload_n dX11_person_30 rfl rfl ?_
  refine j_aald (C := RX3) (kT5 hT) (by decide) (fun _ => rfl) (inT (lT5 hT) (show p < 6 by omega) (by omega)) (mr_nI (by omega) (xT_p hX hT (show p < 6 by omega))) dX11_person_31 (by decide) ?_
  refine j_astore_n (lv2 := [_, _, _, _]) dX11_person_32 rfl (by decide) rfl rfl ?_
  refine j_iload_n dX11_person_33 rfl rfl ?_
  refine j_tableOut (tgt := 104) dX11_person_34 (by decide) (by decide) ?_
  refine j_aload_n dX11_person_104 rfl rfl ?_
  refine j_aload_n dX11_person_105 rfl rfl ?_
  refine cV11_150 (d1 := 1) (kP hT (show p < 6 by omega)) dX11_person_106 (by decide) (Nat.le_of_ble_eq_true rfl) ?_
  refine c_strength P1.1 P1.2.2.2.2.1 P1.2.2.2.2.2.1 (by have := P1.2.2.2.2.2.2.2.1; omega) (by have := P1.2.2.2.2.2.2.2.2.1; omega) ?_
  refine cV11_105 (d1 := 1) rfl dX11_person_109 (by decide) (Nat.le_of_ble_eq_true rfl) ?_
  refine c_answer ?_
  refine j_iret rfl dX11_person_112 ?_
  exact hp
theorem cx_markB1 {p x : Int32} (hX : XR mr) (hT : TT T) (hTn : mr 0 2 = some T) (hW : WT t) (hR : RX mi T t) (hb : bad p (t 0 5)) (hp : post (some (.int (-1))) (up mi 0 9 1) ml mr dom) : CT G 2 0 0 yX11_mark cX11_mark 3 (some .int) [.ref 0, .int p, .int x] mi ml mr dom post := by
  have w := hW.1
  refine enter 0 (by decide) rfl rfl (fun X => ?_)
  refine j_aload_n dX11_mark_0 rfl rfl ?_
  refine j_iload_n dX11_mark_1 rfl rfl ?_
  refine cV11_129 (d1 := 1) rfl dX11_mark_2 (by decide) (Nat.le_of_ble_eq_true rfl) ?_
  refine c_isPersonB hX hT hTn hW hR hb ?_
  refine j_if_eq (tgt := 17) dX11_mark_5 (by decide) (fun _ => ?_) (fun h5 => absurd (by decide) h5)
  refine j_aload_n dX11_mark_17 rfl rfl ?_
  refine j_iconst (v := 1) dX11_mark_18 (by decide) ?_
  refine cV11_75 (d1 := 1) rfl dX11_mark_19 (by decide) (Nat.le_of_ble_eq_true rfl) ?_
  refine c_refuse ?_
  refine j_iret rfl dX11_mark_22 ?_
  exact hp
theorem cx_markB2 {p : Nat} {x : Int32} (hX : XR mr) (hT : TT T) (hTn : mr 0 2 = some T) (hW : WT t) (hR : RX mi T t) (h1 : p < t 0 5) (hb : bad x 5) (hp : post (some (.int (-1))) (up mi 0 9 1) ml mr dom) : CT G 2 0 0 yX11_mark cX11_mark 3 (some .int) [.ref 0, .int (nI p), .int x] mi ml mr dom post := by
  have w := hW.1
  refine enter 0 (by decide) rfl rfl (fun X => ?_)
  refine j_aload_n dX11_mark_0 rfl rfl ?_
  refine j_iload_n dX11_mark_1 rfl rfl ?_
  refine cV11_129 (d1 := 1) rfl dX11_mark_2 (by decide) (Nat.le_of_ble_eq_true rfl) ?_
  refine c_isPersonG hX hT hTn hW hR h1 ?_
  refine j_if_eq (tgt := 17) dX11_mark_5 (by decide) (fun h5 => absurd h5 (by decide)) (fun _ => ?_)
  refine j_iload_n dX11_mark_8 rfl rfl ?_
  refine j_if_lt (tgt := 17) dX11_mark_9 (by decide) (fun h9 => ?_) (fun h9 => ?_)
  · refine j_aload_n dX11_mark_17 rfl rfl ?_
    refine j_iconst (v := 1) dX11_mark_18 (by decide) ?_
    refine cV11_75 (d1 := 1) rfl dX11_mark_19 (by decide) (Nat.le_of_ble_eq_true rfl) ?_
    refine c_refuse ?_
    refine j_iret rfl dX11_mark_22 ?_
    exact hp
  · refine j_iload_n dX11_mark_12 rfl rfl ?_
    refine j_iconst (v := 5) dX11_mark_13 (by decide) ?_
    refine j_icmp_lt (tgt := 23) dX11_mark_14 (by decide) (fun h14 => ?_) (fun h14 => ?_)
    · exact absurd (hb.resolve_left h9) (Int32.not_le.mpr h14)
    · refine j_aload_n dX11_mark_17 rfl rfl ?_
      refine j_iconst (v := 1) dX11_mark_18 (by decide) ?_
      refine cV11_75 (d1 := 1) rfl dX11_mark_19 (by decide) (Nat.le_of_ble_eq_true rfl) ?_
      refine c_refuse ?_
      refine j_iret rfl dX11_mark_22 ?_
      exact hp
theorem cx_mark {p i : Nat} (hX : XR mr) (hT : TT T) (hTn : mr 0 2 = some T) (hW : WT t) (hR : RX mi T t) (h1 : p < t 0 5) (h2 : i < 5) (hp : post (some (.int (nI (t 7 (5 * p + i))))) (up mi 0 9 0) ml mr dom) : CT G 2 0 0 yX11_mark cX11_mark 3 (some .int) [.ref 0, .int (nI p), .int (nI i)] mi ml mr dom post := by
  have w := hW.1
  have P1 := pv hX hT hW hR h1
  refine enter 0 (by decide) rfl rfl (fun X => ?_)
  refine j_aload_n dX11_mark_0 rfl rfl ?_
  refine j_iload_n dX11_mark_1 rfl rfl ?_
  refine cV11_129 (d1 := 1) rfl dX11_mark_2 (by decide) (Nat.le_of_ble_eq_true rfl) ?_
  refine c_isPersonG hX hT hTn hW hR h1 ?_
  refine j_if_eq (tgt := 17) dX11_mark_5 (by decide) (fun h5 => absurd h5 (by decide)) (fun _ => ?_)
  refine j_iload_n dX11_mark_8 rfl rfl ?_
  refine j_if_lt (tgt := 17) dX11_mark_9 (by decide) (fun h9 => absurd h9 (nI_pos (by omega))) (fun _ => ?_)
  refine j_iload_n dX11_mark_12 rfl rfl ?_
  refine j_iconst (v := 5) dX11_mark_13 (by decide) ?_
  refine j_icmp_lt (tgt := 23) dX11_mark_14 (by decide) (fun _ => ?_) (fun h14 => absurd (nI_lt (b := 5) h2 (by decide)) h14)
  refine j_aload_n dX11_mark_23 rfl rfl ?_
  refine j_aload_n dX11_mark_24 rfl rfl ?_
  refine gR11_20 rfl dX11_mark_25 hTn ?_
  refine gR11_132 (kT0 hT) dX11_mark_28 (xT_persons hX hT) ?_
  refine j_iload_n dX11_mark_31 rfl rfl ?_
  refine j_aald (C := RX3) (kT5 hT) (by decide) (fun _ => rfl) (inT (lT5 hT) (show p < 6 by omega) (by omega)) (mr_nI (by omega) (xT_p hX hT (show p < 6 by omega))) dX11_mark_32 (by decide) ?_
  refine gR11_154 (kP hT (show p < 6 by omega)) dX11_mark_33 P1.2.1 ?_
  refine j_iload_n dX11_mark_36 rfl rfl ?_
  refine j_iald P1.2.2.1 (inT P1.2.2.2.1 h2 (by omega)) dX11_mark_37 ?_
  rw [nI_clamp (by omega), (hR.pe h1).2.2.2 i h2]
  refine cV11_105 (d1 := 1) rfl dX11_mark_38 (by decide) (Nat.le_of_ble_eq_true rfl) ?_
  refine c_answer ?_
  refine j_iret rfl dX11_mark_41 ?_
  exact hp
theorem cx_goodB1 {g x : Int32} (hX : XR mr) (hT : TT T) (hTn : mr 0 2 = some T) (hW : WT t) (hR : RX mi T t) (hb : bad g (t 0 6)) (hp : post (some (.int (-1))) (up mi 0 9 1) ml mr dom) : CT G 2 0 0 yX11_good cX11_good 4 (some .int) [.ref 0, .int g, .int x] mi ml mr dom post := by
  have w := hW.1
  refine enter 1 (by decide) rfl rfl (fun X => ?_)
  refine j_aload_n dX11_good_0 rfl rfl ?_
  refine j_iload_n dX11_good_1 rfl rfl ?_
  refine cV11_157 (d1 := 1) rfl dX11_good_2 (by decide) (Nat.le_of_ble_eq_true rfl) ?_
  refine c_isGoodB hX hT hTn hW hR hb ?_
  refine j_if_eq (tgt := 17) dX11_good_5 (by decide) (fun _ => ?_) (fun h5 => absurd (by decide) h5)
  refine j_aload_n dX11_good_17 rfl rfl ?_
  refine j_iconst (v := 1) dX11_good_18 (by decide) ?_
  refine cV11_75 (d1 := 1) rfl dX11_good_19 (by decide) (Nat.le_of_ble_eq_true rfl) ?_
  refine c_refuse ?_
  refine j_iret rfl dX11_good_22 ?_
  exact hp
theorem cx_goodB2 {g : Nat} {x : Int32} (hX : XR mr) (hT : TT T) (hTn : mr 0 2 = some T) (hW : WT t) (hR : RX mi T t) (h1 : g < t 0 6) (hb : bad x 4) (hp : post (some (.int (-1))) (up mi 0 9 1) ml mr dom) : CT G 2 0 0 yX11_good cX11_good 4 (some .int) [.ref 0, .int (nI g), .int x] mi ml mr dom post := by
  have w := hW.1
  refine enter 1 (by decide) rfl rfl (fun X => ?_)
  refine j_aload_n dX11_good_0 rfl rfl ?_
  refine j_iload_n dX11_good_1 rfl rfl ?_
  refine cV11_157 (d1 := 1) rfl dX11_good_2 (by decide) (Nat.le_of_ble_eq_true rfl) ?_
  refine c_isGoodG hX hT hTn hW hR h1 ?_
  refine j_if_eq (tgt := 17) dX11_good_5 (by decide) (fun h5 => absurd h5 (by decide)) (fun _ => ?_)
  refine j_iload_n dX11_good_8 rfl rfl ?_
  refine j_if_lt (tgt := 17) dX11_good_9 (by decide) (fun h9 => ?_) (fun h9 => ?_)
  · refine j_aload_n dX11_good_17 rfl rfl ?_
    refine j_iconst (v := 1) dX11_good_18 (by decide) ?_
    refine cV11_75 (d1 := 1) rfl dX11_good_19 (by decide) (Nat.le_of_ble_eq_true rfl) ?_
    refine c_refuse ?_
    refine j_iret rfl dX11_good_22 ?_
    exact hp
  · refine j_iload_n dX11_good_12 rfl rfl ?_
    refine j_iconst (v := 3) dX11_good_13 (by decide) ?_
    refine j_icmp_le (tgt := 23) dX11_good_14 (by decide) (fun h14 => ?_) (fun h14 => ?_)
    · exact absurd (Int32.le_trans (hb.resolve_left h9) h14) (by decide)
    · refine j_aload_n dX11_good_17 rfl rfl ?_
      refine j_iconst (v := 1) dX11_good_18 (by decide) ?_
      refine cV11_75 (d1 := 1) rfl dX11_good_19 (by decide) (Nat.le_of_ble_eq_true rfl) ?_
      refine c_refuse ?_
      refine j_iret rfl dX11_good_22 ?_
      exact hp
theorem cx_good0 {g : Nat} (hX : XR mr) (hT : TT T) (hTn : mr 0 2 = some T) (hW : WT t) (hR : RX mi T t) (h1 : g < t 0 6)  (hp : post (some (.int (nI (t 8 g)))) (up mi 0 9 0) ml mr dom) : CT G 2 0 0 yX11_good cX11_good 4 (some .int) [.ref 0, .int (nI g), .int 0] mi ml mr dom post := by
  have w := hW.1
  refine enter 1 (by decide) rfl rfl (fun X => ?_)
  refine j_aload_n dX11_good_0 rfl rfl ?_
  refine j_iload_n dX11_good_1 rfl rfl ?_
  refine cV11_157 (d1 := 1) rfl dX11_good_2 (by decide) (Nat.le_of_ble_eq_true rfl) ?_
  refine c_isGoodG hX hT hTn hW hR h1 ?_
  refine j_if_eq (tgt := 17) dX11_good_5 (by decide) (fun h5 => absurd h5 (by decide)) (fun _ => ?_)
  refine j_iload_n dX11_good_8 rfl rfl ?_
  refine j_if_lt (tgt := 17) dX11_good_9 (by decide) (fun h9 => absurd h9 (by decide)) (fun _ => ?_)
  refine j_iload_n dX11_good_12 rfl rfl ?_
  refine j_iconst (v := 3) dX11_good_13 (by decide) ?_
  refine j_icmp_le (tgt := 23) dX11_good_14 (by decide) (fun _ => ?_) (fun h14 => absurd (by decide) h14)
  refine j_aload_n dX11_good_23 rfl rfl ?_
  refine gR11_20 rfl dX11_good_24 hTn ?_
  refine gR11_160 (kT0 hT) dX11_good_27 (xT_wares hX hT) ?_
  refine j_iload_n dX11_good_30 rfl rfl ?_
  refine j_aald (C := RX1) (kT6 hT) (by decide) (fun _ => rfl) (inT (lT6 hT) (show g < 5 by omega) (by omega)) (mr_nI (by omega) (xT_g hX hT (show g < 5 by omega))) dX11_good_31 (by decide) ?_
  refine j_astore_n (lv2 := [_, _, _, _]) dX11_good_32 rfl (by decide) rfl rfl ?_
  refine j_iload_n dX11_good_33 rfl rfl ?_
  refine j_tableIn (tgt := 60) dX11_good_34 (by decide) (by decide) (by rfl) (by decide) ?_
  refine j_aload_n dX11_good_60 rfl rfl ?_
  refine j_aload_n dX11_good_61 rfl rfl ?_
  refine gI11_164 (kG hT (show g < 5 by omega)) dX11_good_62 ?_
  rw [(hR.go h1).1]
  refine cV11_105 (d1 := 1) rfl dX11_good_65 (by decide) (Nat.le_of_ble_eq_true rfl) ?_
  refine c_answer ?_
  refine j_iret rfl dX11_good_68 ?_
  exact hp
theorem cx_good1 {g : Nat} (hX : XR mr) (hT : TT T) (hTn : mr 0 2 = some T) (hW : WT t) (hR : RX mi T t) (h1 : g < t 0 6)  (hp : post (some (.int (nI (t 10 g)))) (up mi 0 9 0) ml mr dom) : CT G 2 0 0 yX11_good cX11_good 4 (some .int) [.ref 0, .int (nI g), .int 1] mi ml mr dom post := by
  have w := hW.1
  refine enter 1 (by decide) rfl rfl (fun X => ?_)
  refine j_aload_n dX11_good_0 rfl rfl ?_
  refine j_iload_n dX11_good_1 rfl rfl ?_
  refine cV11_157 (d1 := 1) rfl dX11_good_2 (by decide) (Nat.le_of_ble_eq_true rfl) ?_
  refine c_isGoodG hX hT hTn hW hR h1 ?_
  refine j_if_eq (tgt := 17) dX11_good_5 (by decide) (fun h5 => absurd h5 (by decide)) (fun _ => ?_)
  refine j_iload_n dX11_good_8 rfl rfl ?_
  refine j_if_lt (tgt := 17) dX11_good_9 (by decide) (fun h9 => absurd h9 (by decide)) (fun _ => ?_)
  refine j_iload_n dX11_good_12 rfl rfl ?_
  refine j_iconst (v := 3) dX11_good_13 (by decide) ?_
  refine j_icmp_le (tgt := 23) dX11_good_14 (by decide) (fun _ => ?_) (fun h14 => absurd (by decide) h14)
  refine j_aload_n dX11_good_23 rfl rfl ?_
  refine gR11_20 rfl dX11_good_24 hTn ?_
  refine gR11_160 (kT0 hT) dX11_good_27 (xT_wares hX hT) ?_
  refine j_iload_n dX11_good_30 rfl rfl ?_
  refine j_aald (C := RX1) (kT6 hT) (by decide) (fun _ => rfl) (inT (lT6 hT) (show g < 5 by omega) (by omega)) (mr_nI (by omega) (xT_g hX hT (show g < 5 by omega))) dX11_good_31 (by decide) ?_
  refine j_astore_n (lv2 := [_, _, _, _]) dX11_good_32 rfl (by decide) rfl rfl ?_
  refine j_iload_n dX11_good_33 rfl rfl ?_
  refine j_tableIn (tgt := 69) dX11_good_34 (by decide) (by decide) (by rfl) (by decide) ?_
  refine j_aload_n dX11_good_69 rfl rfl ?_
  refine j_aload_n dX11_good_70 rfl rfl ?_
  refine gI11_169 (kG hT (show g < 5 by omega)) dX11_good_71 ?_
  rw [(hR.go h1).2.2]
  refine cV11_105 (d1 := 1) rfl dX11_good_74 (by decide) (Nat.le_of_ble_eq_true rfl) ?_
  refine c_answer ?_
  refine j_iret rfl dX11_good_77 ?_
  exact hp
theorem cx_good2 {g : Nat} (hX : XR mr) (hT : TT T) (hTn : mr 0 2 = some T) (hW : WT t) (hR : RX mi T t) (h1 : g < t 0 6) (hG : GP mi t v) (hp : post (some (.int (nI (v (6 + g))))) (up mi 0 9 0) ml mr dom) : CT G 2 0 0 yX11_good cX11_good 4 (some .int) [.ref 0, .int (nI g), .int 2] mi ml mr dom post := by
  have w := hW.1
  refine enter 1 (by decide) rfl rfl (fun X => ?_)
  refine j_aload_n dX11_good_0 rfl rfl ?_
  refine j_iload_n dX11_good_1 rfl rfl ?_
  refine cV11_157 (d1 := 1) rfl dX11_good_2 (by decide) (Nat.le_of_ble_eq_true rfl) ?_
  refine c_isGoodG hX hT hTn hW hR h1 ?_
  refine j_if_eq (tgt := 17) dX11_good_5 (by decide) (fun h5 => absurd h5 (by decide)) (fun _ => ?_)
  refine j_iload_n dX11_good_8 rfl rfl ?_
  refine j_if_lt (tgt := 17) dX11_good_9 (by decide) (fun h9 => absurd h9 (by decide)) (fun _ => ?_)
  refine j_iload_n dX11_good_12 rfl rfl ?_
  refine j_iconst (v := 3) dX11_good_13 (by decide) ?_
  refine j_icmp_le (tgt := 23) dX11_good_14 (by decide) (fun _ => ?_) (fun h14 => absurd (by decide) h14)
  refine j_aload_n dX11_good_23 rfl rfl ?_
  refine gR11_20 rfl dX11_good_24 hTn ?_
  refine gR11_160 (kT0 hT) dX11_good_27 (xT_wares hX hT) ?_
  refine j_iload_n dX11_good_30 rfl rfl ?_
  refine j_aald (C := RX1) (kT6 hT) (by decide) (fun _ => rfl) (inT (lT6 hT) (show g < 5 by omega) (by omega)) (mr_nI (by omega) (xT_g hX hT (show g < 5 by omega))) dX11_good_31 (by decide) ?_
  refine j_astore_n (lv2 := [_, _, _, _]) dX11_good_32 rfl (by decide) rfl rfl ?_
  refine j_iload_n dX11_good_33 rfl rfl ?_
  refine j_tableIn (tgt := 78) dX11_good_34 (by decide) (by decide) (by rfl) (by decide) ?_
  refine j_aload_n dX11_good_78 rfl rfl ?_
  refine j_aload_n dX11_good_79 rfl rfl ?_
  refine gR11_37 rfl dX11_good_80 (x_present hX) ?_
  refine j_iload_n dX11_good_83 rfl rfl ?_
  refine cV11_172 (d1 := 1) rfl dX11_good_84 (by decide) (Nat.le_of_ble_eq_true rfl) ?_
  refine c_place hX hW hG h1 ?_
  refine cV11_105 (d1 := 1) rfl dX11_good_87 (by decide) (Nat.le_of_ble_eq_true rfl) ?_
  refine c_answer ?_
  refine j_iret rfl dX11_good_90 ?_
  exact hp
theorem cx_good3 {g : Nat} (hX : XR mr) (hT : TT T) (hTn : mr 0 2 = some T) (hW : WT t) (hR : RX mi T t) (h1 : g < t 0 6) (hL : 60 ≤ t 0 2) (hp : post (some (.int (nI (pcO t g)))) (up mi 0 9 0) ml mr dom) : CT G 4 0 0 yX11_good cX11_good 4 (some .int) [.ref 0, .int (nI g), .int 3] mi ml mr dom post := by
  have w := hW.1
  refine enter 1 (by decide) rfl rfl (fun X => ?_)
  refine j_aload_n dX11_good_0 rfl rfl ?_
  refine j_iload_n dX11_good_1 rfl rfl ?_
  refine cV11_157 (d1 := 1) rfl dX11_good_2 (by decide) (Nat.le_of_ble_eq_true rfl) ?_
  refine c_isGoodG hX hT hTn hW hR h1 ?_
  refine j_if_eq (tgt := 17) dX11_good_5 (by decide) (fun h5 => absurd h5 (by decide)) (fun _ => ?_)
  refine j_iload_n dX11_good_8 rfl rfl ?_
  refine j_if_lt (tgt := 17) dX11_good_9 (by decide) (fun h9 => absurd h9 (by decide)) (fun _ => ?_)
  refine j_iload_n dX11_good_12 rfl rfl ?_
  refine j_iconst (v := 3) dX11_good_13 (by decide) ?_
  refine j_icmp_le (tgt := 23) dX11_good_14 (by decide) (fun _ => ?_) (fun h14 => absurd (by decide) h14)
  refine j_aload_n dX11_good_23 rfl rfl ?_
  refine gR11_20 rfl dX11_good_24 hTn ?_
  refine gR11_160 (kT0 hT) dX11_good_27 (xT_wares hX hT) ?_
  refine j_iload_n dX11_good_30 rfl rfl ?_
  refine j_aald (C := RX1) (kT6 hT) (by decide) (fun _ => rfl) (inT (lT6 hT) (show g < 5 by omega) (by omega)) (mr_nI (by omega) (xT_g hX hT (show g < 5 by omega))) dX11_good_31 (by decide) ?_
  refine j_astore_n (lv2 := [_, _, _, _]) dX11_good_32 rfl (by decide) rfl rfl ?_
  refine j_iload_n dX11_good_33 rfl rfl ?_
  refine j_tableOut (tgt := 91) dX11_good_34 (by decide) (by decide) ?_
  refine j_aload_n dX11_good_91 rfl rfl ?_
  refine j_aload_n dX11_good_92 rfl rfl ?_
  refine gR11_20 rfl dX11_good_93 hTn ?_
  refine j_iload_n dX11_good_96 rfl rfl ?_
  refine cV11_175 (d1 := 3) (kT0 hT) dX11_good_97 (by decide) (Nat.le_of_ble_eq_true rfl) ?_
  refine c_piecesOf hX hT hW hR hL h1 ?_
  refine cV11_105 (d1 := 1) rfl dX11_good_100 (by decide) (Nat.le_of_ble_eq_true rfl) ?_
  refine c_answer ?_
  refine j_iret rfl dX11_good_103 ?_
  exact hp
theorem cx_visitB1 {k x : Int32} (hX : XR mr) (hT : TT T) (hTn : mr 0 2 = some T) (hW : WT t) (hR : RX mi T t) (hb : bad k (t 0 7)) (hp : post (some (.int (-1))) (up mi 0 9 1) ml mr dom) : CT G 2 0 0 yX11_visit cX11_visit 4 (some .int) [.ref 0, .int k, .int x] mi ml mr dom post := by
  have w := hW.1
  refine enter 1 (by decide) rfl rfl (fun X => ?_)
  refine j_aload_n dX11_visit_0 rfl rfl ?_
  refine j_iload_n dX11_visit_1 rfl rfl ?_
  refine cV11_207 (d1 := 1) rfl dX11_visit_2 (by decide) (Nat.le_of_ble_eq_true rfl) ?_
  refine c_isVisitB hX hT hTn hW hR hb ?_
  refine j_if_eq (tgt := 17) dX11_visit_5 (by decide) (fun _ => ?_) (fun h5 => absurd (by decide) h5)
  refine j_aload_n dX11_visit_17 rfl rfl ?_
  refine j_iconst (v := 1) dX11_visit_18 (by decide) ?_
  refine cV11_75 (d1 := 1) rfl dX11_visit_19 (by decide) (Nat.le_of_ble_eq_true rfl) ?_
  refine c_refuse ?_
  refine j_iret rfl dX11_visit_22 ?_
  exact hp
theorem cx_visitB2 {k : Nat} {x : Int32} (hX : XR mr) (hT : TT T) (hTn : mr 0 2 = some T) (hW : WT t) (hR : RX mi T t) (h1 : k < t 0 7) (hb : bad x 5) (hp : post (some (.int (-1))) (up mi 0 9 1) ml mr dom) : CT G 2 0 0 yX11_visit cX11_visit 4 (some .int) [.ref 0, .int (nI k), .int x] mi ml mr dom post := by
  have w := hW.1
  refine enter 1 (by decide) rfl rfl (fun X => ?_)
  refine j_aload_n dX11_visit_0 rfl rfl ?_
  refine j_iload_n dX11_visit_1 rfl rfl ?_
  refine cV11_207 (d1 := 1) rfl dX11_visit_2 (by decide) (Nat.le_of_ble_eq_true rfl) ?_
  refine c_isVisitG hX hT hTn hW hR h1 ?_
  refine j_if_eq (tgt := 17) dX11_visit_5 (by decide) (fun h5 => absurd h5 (by decide)) (fun _ => ?_)
  refine j_iload_n dX11_visit_8 rfl rfl ?_
  refine j_if_lt (tgt := 17) dX11_visit_9 (by decide) (fun h9 => ?_) (fun h9 => ?_)
  · refine j_aload_n dX11_visit_17 rfl rfl ?_
    refine j_iconst (v := 1) dX11_visit_18 (by decide) ?_
    refine cV11_75 (d1 := 1) rfl dX11_visit_19 (by decide) (Nat.le_of_ble_eq_true rfl) ?_
    refine c_refuse ?_
    refine j_iret rfl dX11_visit_22 ?_
    exact hp
  · refine j_iload_n dX11_visit_12 rfl rfl ?_
    refine j_iconst (v := 4) dX11_visit_13 (by decide) ?_
    refine j_icmp_le (tgt := 23) dX11_visit_14 (by decide) (fun h14 => ?_) (fun h14 => ?_)
    · exact absurd (Int32.le_trans (hb.resolve_left h9) h14) (by decide)
    · refine j_aload_n dX11_visit_17 rfl rfl ?_
      refine j_iconst (v := 1) dX11_visit_18 (by decide) ?_
      refine cV11_75 (d1 := 1) rfl dX11_visit_19 (by decide) (Nat.le_of_ble_eq_true rfl) ?_
      refine c_refuse ?_
      refine j_iret rfl dX11_visit_22 ?_
      exact hp
theorem cx_visit0 {k : Nat} (hX : XR mr) (hT : TT T) (hTn : mr 0 2 = some T) (hW : WT t) (hR : RX mi T t) (h1 : k < t 0 7) (hp : post (some (.int (nI (t 11 k)))) (up mi 0 9 0) ml mr dom) : CT G 2 0 0 yX11_visit cX11_visit 4 (some .int) [.ref 0, .int (nI k), .int 0] mi ml mr dom post := by
  have w := hW.1
  refine enter 1 (by decide) rfl rfl (fun X => ?_)
  refine j_aload_n dX11_visit_0 rfl rfl ?_
  refine j_iload_n dX11_visit_1 rfl rfl ?_
  refine cV11_207 (d1 := 1) rfl dX11_visit_2 (by decide) (Nat.le_of_ble_eq_true rfl) ?_
  refine c_isVisitG hX hT hTn hW hR h1 ?_
  refine j_if_eq (tgt := 17) dX11_visit_5 (by decide) (fun h5 => absurd h5 (by decide)) (fun _ => ?_)
  refine j_iload_n dX11_visit_8 rfl rfl ?_
  refine j_if_lt (tgt := 17) dX11_visit_9 (by decide) (fun h9 => absurd h9 (by decide)) (fun _ => ?_)
  refine j_iload_n dX11_visit_12 rfl rfl ?_
  refine j_iconst (v := 4) dX11_visit_13 (by decide) ?_
  refine j_icmp_le (tgt := 23) dX11_visit_14 (by decide) (fun _ => ?_) (fun h14 => absurd (by decide) h14)
  refine j_aload_n dX11_visit_23 rfl rfl ?_
  refine gR11_20 rfl dX11_visit_24 hTn ?_
  refine gR11_210 (kT0 hT) dX11_visit_27 (xT_calls hX hT) ?_
  refine j_iload_n dX11_visit_30 rfl rfl ?_
  refine j_aald (C := RX10) (kT7 hT) (by decide) (fun _ => rfl) (inT (lT7 hT) (show k < 8 by omega) (by omega)) (mr_nI (by omega) (xT_v hX hT (show k < 8 by omega))) dX11_visit_31 (by decide) ?_
  refine j_astore_n (lv2 := [_, _, _, _]) dX11_visit_32 rfl (by decide) rfl rfl ?_
  refine j_iload_n dX11_visit_33 rfl rfl ?_
  refine j_tableIn (tgt := 64) dX11_visit_34 (by decide) (by decide) (by rfl) (by decide) ?_
  refine j_aload_n dX11_visit_64 rfl rfl ?_
  refine j_aload_n dX11_visit_65 rfl rfl ?_
  refine gI11_214 (kV hT (show k < 8 by omega)) dX11_visit_66 ?_
  rw [(hR.vi h1).1]
  refine cV11_105 (d1 := 1) rfl dX11_visit_69 (by decide) (Nat.le_of_ble_eq_true rfl) ?_
  refine c_answer ?_
  refine j_iret rfl dX11_visit_72 ?_
  exact hp
theorem cx_visit1 {k : Nat} (hX : XR mr) (hT : TT T) (hTn : mr 0 2 = some T) (hW : WT t) (hR : RX mi T t) (h1 : k < t 0 7) (hp : post (some (.int (nI (t 12 k)))) (up mi 0 9 0) ml mr dom) : CT G 2 0 0 yX11_visit cX11_visit 4 (some .int) [.ref 0, .int (nI k), .int 1] mi ml mr dom post := by
  have w := hW.1
  refine enter 1 (by decide) rfl rfl (fun X => ?_)
  refine j_aload_n dX11_visit_0 rfl rfl ?_
  refine j_iload_n dX11_visit_1 rfl rfl ?_
  refine cV11_207 (d1 := 1) rfl dX11_visit_2 (by decide) (Nat.le_of_ble_eq_true rfl) ?_
  refine c_isVisitG hX hT hTn hW hR h1 ?_
  refine j_if_eq (tgt := 17) dX11_visit_5 (by decide) (fun h5 => absurd h5 (by decide)) (fun _ => ?_)
  refine j_iload_n dX11_visit_8 rfl rfl ?_
  refine j_if_lt (tgt := 17) dX11_visit_9 (by decide) (fun h9 => absurd h9 (by decide)) (fun _ => ?_)
  refine j_iload_n dX11_visit_12 rfl rfl ?_
  refine j_iconst (v := 4) dX11_visit_13 (by decide) ?_
  refine j_icmp_le (tgt := 23) dX11_visit_14 (by decide) (fun _ => ?_) (fun h14 => absurd (by decide) h14)
  refine j_aload_n dX11_visit_23 rfl rfl ?_
  refine gR11_20 rfl dX11_visit_24 hTn ?_
  refine gR11_210 (kT0 hT) dX11_visit_27 (xT_calls hX hT) ?_
  refine j_iload_n dX11_visit_30 rfl rfl ?_
  refine j_aald (C := RX10) (kT7 hT) (by decide) (fun _ => rfl) (inT (lT7 hT) (show k < 8 by omega) (by omega)) (mr_nI (by omega) (xT_v hX hT (show k < 8 by omega))) dX11_visit_31 (by decide) ?_
  refine j_astore_n (lv2 := [_, _, _, _]) dX11_visit_32 rfl (by decide) rfl rfl ?_
  refine j_iload_n dX11_visit_33 rfl rfl ?_
  refine j_tableIn (tgt := 73) dX11_visit_34 (by decide) (by decide) (by rfl) (by decide) ?_
  refine j_aload_n dX11_visit_73 rfl rfl ?_
  refine j_aload_n dX11_visit_74 rfl rfl ?_
  refine gI11_219 (kV hT (show k < 8 by omega)) dX11_visit_75 ?_
  rw [(hR.vi h1).2.1]
  refine cV11_105 (d1 := 1) rfl dX11_visit_78 (by decide) (Nat.le_of_ble_eq_true rfl) ?_
  refine c_answer ?_
  refine j_iret rfl dX11_visit_81 ?_
  exact hp
theorem cx_visit2 {k : Nat} (hX : XR mr) (hT : TT T) (hTn : mr 0 2 = some T) (hW : WT t) (hR : RX mi T t) (h1 : k < t 0 7) (hp : post (some (.int (nI (t 13 k)))) (up mi 0 9 0) ml mr dom) : CT G 2 0 0 yX11_visit cX11_visit 4 (some .int) [.ref 0, .int (nI k), .int 2] mi ml mr dom post := by
  have w := hW.1
  refine enter 1 (by decide) rfl rfl (fun X => ?_)
  refine j_aload_n dX11_visit_0 rfl rfl ?_
  refine j_iload_n dX11_visit_1 rfl rfl ?_
  refine cV11_207 (d1 := 1) rfl dX11_visit_2 (by decide) (Nat.le_of_ble_eq_true rfl) ?_
  refine c_isVisitG hX hT hTn hW hR h1 ?_
  refine j_if_eq (tgt := 17) dX11_visit_5 (by decide) (fun h5 => absurd h5 (by decide)) (fun _ => ?_)
  refine j_iload_n dX11_visit_8 rfl rfl ?_
  refine j_if_lt (tgt := 17) dX11_visit_9 (by decide) (fun h9 => absurd h9 (by decide)) (fun _ => ?_)
  refine j_iload_n dX11_visit_12 rfl rfl ?_
  refine j_iconst (v := 4) dX11_visit_13 (by decide) ?_
  refine j_icmp_le (tgt := 23) dX11_visit_14 (by decide) (fun _ => ?_) (fun h14 => absurd (by decide) h14)
  refine j_aload_n dX11_visit_23 rfl rfl ?_
  refine gR11_20 rfl dX11_visit_24 hTn ?_
  refine gR11_210 (kT0 hT) dX11_visit_27 (xT_calls hX hT) ?_
  refine j_iload_n dX11_visit_30 rfl rfl ?_
  refine j_aald (C := RX10) (kT7 hT) (by decide) (fun _ => rfl) (inT (lT7 hT) (show k < 8 by omega) (by omega)) (mr_nI (by omega) (xT_v hX hT (show k < 8 by omega))) dX11_visit_31 (by decide) ?_
  refine j_astore_n (lv2 := [_, _, _, _]) dX11_visit_32 rfl (by decide) rfl rfl ?_
  refine j_iload_n dX11_visit_33 rfl rfl ?_
  refine j_tableIn (tgt := 82) dX11_visit_34 (by decide) (by decide) (by rfl) (by decide) ?_
  refine j_aload_n dX11_visit_82 rfl rfl ?_
  refine j_aload_n dX11_visit_83 rfl rfl ?_
  refine gI11_222 (kV hT (show k < 8 by omega)) dX11_visit_84 ?_
  rw [(hR.vi h1).2.2]
  refine cV11_105 (d1 := 1) rfl dX11_visit_87 (by decide) (Nat.le_of_ble_eq_true rfl) ?_
  refine c_answer ?_
  refine j_iret rfl dX11_visit_90 ?_
  exact hp
theorem cx_visit3 {k : Nat} (hX : XR mr) (hT : TT T) (hTn : mr 0 2 = some T) (hW : WT t) (hR : RX mi T t) (h1 : k < t 0 7) (hp : post (some (.int (nI (shA t k)))) (up mi 0 9 0) ml mr dom) : CT G 4 0 0 yX11_visit cX11_visit 4 (some .int) [.ref 0, .int (nI k), .int 3] mi ml mr dom post := by
  have w := hW.1
  refine enter 1 (by decide) rfl rfl (fun X => ?_)
  refine j_aload_n dX11_visit_0 rfl rfl ?_
  refine j_iload_n dX11_visit_1 rfl rfl ?_
  refine cV11_207 (d1 := 1) rfl dX11_visit_2 (by decide) (Nat.le_of_ble_eq_true rfl) ?_
  refine c_isVisitG hX hT hTn hW hR h1 ?_
  refine j_if_eq (tgt := 17) dX11_visit_5 (by decide) (fun h5 => absurd h5 (by decide)) (fun _ => ?_)
  refine j_iload_n dX11_visit_8 rfl rfl ?_
  refine j_if_lt (tgt := 17) dX11_visit_9 (by decide) (fun h9 => absurd h9 (by decide)) (fun _ => ?_)
  refine j_iload_n dX11_visit_12 rfl rfl ?_
  refine j_iconst (v := 4) dX11_visit_13 (by decide) ?_
  refine j_icmp_le (tgt := 23) dX11_visit_14 (by decide) (fun _ => ?_) (fun h14 => absurd (by decide) h14)
  refine j_aload_n dX11_visit_23 rfl rfl ?_
  refine gR11_20 rfl dX11_visit_24 hTn ?_
  refine gR11_210 (kT0 hT) dX11_visit_27 (xT_calls hX hT) ?_
  refine j_iload_n dX11_visit_30 rfl rfl ?_
  refine j_aald (C := RX10) (kT7 hT) (by decide) (fun _ => rfl) (inT (lT7 hT) (show k < 8 by omega) (by omega)) (mr_nI (by omega) (xT_v hX hT (show k < 8 by omega))) dX11_visit_31 (by decide) ?_
  refine j_astore_n (lv2 := [_, _, _, _]) dX11_visit_32 rfl (by decide) rfl rfl ?_
  refine j_iload_n dX11_visit_33 rfl rfl ?_
  refine j_tableIn (tgt := 91) dX11_visit_34 (by decide) (by decide) (by rfl) (by decide) ?_
  refine j_aload_n dX11_visit_91 rfl rfl ?_
  refine j_aload_n dX11_visit_92 rfl rfl ?_
  refine gR11_20 rfl dX11_visit_93 hTn ?_
  refine j_iload_n dX11_visit_96 rfl rfl ?_
  refine cV11_225 (d1 := 3) (kT0 hT) dX11_visit_97 (by decide) (Nat.le_of_ble_eq_true rfl) ?_
  refine c_shownAt0 hX hT hW hR h1 rfl ?_
  refine cV11_105 (d1 := 1) rfl dX11_visit_100 (by decide) (Nat.le_of_ble_eq_true rfl) ?_
  refine c_answer ?_
  refine j_iret rfl dX11_visit_103 ?_
  exact hp
theorem cx_visit4 {k : Nat} (hX : XR mr) (hT : TT T) (hTn : mr 0 2 = some T) (hW : WT t) (hR : RX mi T t) (h1 : k < t 0 7) (hp : post (some (.int (nI (fiA t k 10)))) (up mi 0 9 0) ml mr dom) : CT G 4 0 0 yX11_visit cX11_visit 4 (some .int) [.ref 0, .int (nI k), .int 4] mi ml mr dom post := by
  have w := hW.1
  refine enter 1 (by decide) rfl rfl (fun X => ?_)
  refine j_aload_n dX11_visit_0 rfl rfl ?_
  refine j_iload_n dX11_visit_1 rfl rfl ?_
  refine cV11_207 (d1 := 1) rfl dX11_visit_2 (by decide) (Nat.le_of_ble_eq_true rfl) ?_
  refine c_isVisitG hX hT hTn hW hR h1 ?_
  refine j_if_eq (tgt := 17) dX11_visit_5 (by decide) (fun h5 => absurd h5 (by decide)) (fun _ => ?_)
  refine j_iload_n dX11_visit_8 rfl rfl ?_
  refine j_if_lt (tgt := 17) dX11_visit_9 (by decide) (fun h9 => absurd h9 (by decide)) (fun _ => ?_)
  refine j_iload_n dX11_visit_12 rfl rfl ?_
  refine j_iconst (v := 4) dX11_visit_13 (by decide) ?_
  refine j_icmp_le (tgt := 23) dX11_visit_14 (by decide) (fun _ => ?_) (fun h14 => absurd (by decide) h14)
  refine j_aload_n dX11_visit_23 rfl rfl ?_
  refine gR11_20 rfl dX11_visit_24 hTn ?_
  refine gR11_210 (kT0 hT) dX11_visit_27 (xT_calls hX hT) ?_
  refine j_iload_n dX11_visit_30 rfl rfl ?_
  refine j_aald (C := RX10) (kT7 hT) (by decide) (fun _ => rfl) (inT (lT7 hT) (show k < 8 by omega) (by omega)) (mr_nI (by omega) (xT_v hX hT (show k < 8 by omega))) dX11_visit_31 (by decide) ?_
  refine j_astore_n (lv2 := [_, _, _, _]) dX11_visit_32 rfl (by decide) rfl rfl ?_
  refine j_iload_n dX11_visit_33 rfl rfl ?_
  refine j_tableOut (tgt := 104) dX11_visit_34 (by decide) (by decide) ?_
  refine j_aload_n dX11_visit_104 rfl rfl ?_
  refine j_aload_n dX11_visit_105 rfl rfl ?_
  refine gR11_20 rfl dX11_visit_106 hTn ?_
  refine j_iload_n dX11_visit_109 rfl rfl ?_
  refine j_bipush (v := 10) dX11_visit_110 (by decide) ?_
  refine cV11_228 (d1 := 3) (kT0 hT) dX11_visit_112 (by decide) (Nat.le_of_ble_eq_true rfl) ?_
  refine c_fineAt0 hX hT hW hR h1 (s0 := 10) (by decide) rfl rfl ?_
  refine cV11_105 (d1 := 1) rfl dX11_visit_115 (by decide) (Nat.le_of_ble_eq_true rfl) ?_
  refine c_answer ?_
  refine j_iret rfl dX11_visit_118 ?_
  exact hp
end C11
