/-! the reference: its questions -/
/-- where people and goods are, the hour, the day -/
def VM (mi : MI) (t : TW) (v : Nat → Nat) : Prop := (∀ p, p < t 0 5 → mi 1002 p = nI (v p) ∧ v p < t 0 3) ∧ (∀ g, g < t 0 6 → mi 1002 (6 + g) = nI (v (6 + g)) ∧ v (6 + g) < t 0 3) ∧ (mi 1002 11 = nI (v 11) ∧ v 11 < 24) ∧ (mi 1002 12 = nI (v 12) ∧ v 12 < 99999)
theorem VM_off {mi m : MI} {t : TW} {v : Nat → Nat} (e : m 1002 = mi 1002) (h : VM mi t v) : VM m t v := by unfold VM; rw [e]; exact h
section M13
variable {G : GG} {post : PT} {mi : MI} {ml : ML} {mr : MR} {dom : List Nat} {M : Nat} {t : TW} {v : Nat → Nat}
theorem m_isHouseG {j : Nat} (hX : XM mr) (hM : MM M) (hY : XT mr M) (hTn : mr 1000 3 = some M) (hg : GB t) (hW : WT t) (hR : RM mi M t) (hj : j < t 0 3) (hp : post (some (.int 1)) mi ml mr dom) : CT G 1 0 0 yX13_isHouse cX13_isHouse 2 (some .boolean) [.ref 1000, .int (nI j)] mi ml mr dom post := by
  have w := hW.1
  refine enter 0 (by decide) rfl rfl (fun X => ?_)
  refine j_aload_n dX13_isHouse_0 rfl rfl ?_
  refine gR13_335 rfl dX13_isHouse_1 hTn ?_
  refine j_ifnull dX13_isHouse_4 ?_
  refine j_iload_n dX13_isHouse_7 rfl rfl ?_
  refine j_if_lt (tgt := 26) dX13_isHouse_8 (by decide) (fun h8 => absurd h8 (nI_pos (by omega))) (fun h8 => ?_)
  refine j_iload_n dX13_isHouse_11 rfl rfl ?_
  refine j_aload_n dX13_isHouse_12 rfl rfl ?_
  refine gR13_335 rfl dX13_isHouse_13 hTn ?_
  refine gI13_196 (kM0 hM) dX13_isHouse_16 ?_
  rw [hR.1 3 (by decide)]
  refine j_icmp_ge (tgt := 26) dX13_isHouse_19 (by decide) (fun h19 => by exfalso; rw [nI_leI (by have := hg 0 3; omega) (by omega)] at h19; have := hg 0 3; omega) (fun h19 => ?_)
  refine j_iconst (v := nI 1) dX13_isHouse_22 (by decide) ?_
  refine j_goto (tgt := 27) dX13_isHouse_23 (by decide) ?_
  refine j_zret rfl (by decide) dX13_isHouse_27 ?_
  exact hp
theorem m_isHouseB {x : Int32} (hX : XM mr) (hM : MM M) (hY : XT mr M) (hTn : mr 1000 3 = some M) (hg : GB t) (hW : WT t) (hR : RM mi M t) (hb : bad x (t 0 3)) (hp : post (some (.int 0)) mi ml mr dom) : CT G 1 0 0 yX13_isHouse cX13_isHouse 2 (some .boolean) [.ref 1000, .int x] mi ml mr dom post := by
  have w := hW.1
  refine enter 0 (by decide) rfl rfl (fun X => ?_)
  refine j_aload_n dX13_isHouse_0 rfl rfl ?_
  refine gR13_335 rfl dX13_isHouse_1 hTn ?_
  refine j_ifnull dX13_isHouse_4 ?_
  refine j_iload_n dX13_isHouse_7 rfl rfl ?_
  refine j_if_lt (tgt := 26) dX13_isHouse_8 (by decide) (fun h8 => ?_) (fun h8 => ?_)
  · refine j_iconst (v := nI 0) dX13_isHouse_26 (by decide) ?_
    refine j_zret rfl (by decide) dX13_isHouse_27 ?_
    exact hp
  · refine j_iload_n dX13_isHouse_11 rfl rfl ?_
    refine j_aload_n dX13_isHouse_12 rfl rfl ?_
    refine gR13_335 rfl dX13_isHouse_13 hTn ?_
    refine gI13_196 (kM0 hM) dX13_isHouse_16 ?_
    rw [hR.1 3 (by decide)]
    refine j_icmp_ge (tgt := 26) dX13_isHouse_19 (by decide) (fun h19 => ?_) (fun h19 => ?_)
    · refine j_iconst (v := nI 0) dX13_isHouse_26 (by decide) ?_
      refine j_zret rfl (by decide) dX13_isHouse_27 ?_
      exact hp
    · exact (hb.elim h8 h19).elim
theorem m_isHouseN {x : Int32} (hTn : mr 1000 3 = none) (hp : post (some (.int 0)) mi ml mr dom) : CT G 1 0 0 yX13_isHouse cX13_isHouse 2 (some .boolean) [.ref 1000, .int x] mi ml mr dom post := by
  refine enter 0 (by decide) rfl rfl (fun X => ?_)
  refine j_aload_n dX13_isHouse_0 rfl rfl ?_
  refine gN13_335 rfl dX13_isHouse_1 hTn ?_
  refine j_ifnullN (tgt := 26) dX13_isHouse_4 (by decide) ?_
  refine j_iconst (v := nI 0) dX13_isHouse_26 (by decide) ?_
  refine j_zret rfl (by decide) dX13_isHouse_27 ?_
  exact hp
theorem m_isPersonG {j : Nat} (hX : XM mr) (hM : MM M) (hY : XT mr M) (hTn : mr 1000 3 = some M) (hg : GB t) (hW : WT t) (hR : RM mi M t) (hj : j < t 0 5) (hp : post (some (.int 1)) mi ml mr dom) : CT G 1 0 0 yX13_isPerson cX13_isPerson 2 (some .boolean) [.ref 1000, .int (nI j)] mi ml mr dom post := by
  have w := hW.1
  refine enter 0 (by decide) rfl rfl (fun X => ?_)
  refine j_aload_n dX13_isPerson_0 rfl rfl ?_
  refine gR13_335 rfl dX13_isPerson_1 hTn ?_
  refine j_ifnull dX13_isPerson_4 ?_
  refine j_iload_n dX13_isPerson_7 rfl rfl ?_
  refine j_if_lt (tgt := 26) dX13_isPerson_8 (by decide) (fun h8 => absurd h8 (nI_pos (by omega))) (fun h8 => ?_)
  refine j_iload_n dX13_isPerson_11 rfl rfl ?_
  refine j_aload_n dX13_isPerson_12 rfl rfl ?_
  refine gR13_335 rfl dX13_isPerson_13 hTn ?_
  refine gI13_199 (kM0 hM) dX13_isPerson_16 ?_
  rw [hR.1 5 (by decide)]
  refine j_icmp_ge (tgt := 26) dX13_isPerson_19 (by decide) (fun h19 => by exfalso; rw [nI_leI (by have := hg 0 5; omega) (by omega)] at h19; have := hg 0 5; omega) (fun h19 => ?_)
  refine j_iconst (v := nI 1) dX13_isPerson_22 (by decide) ?_
  refine j_goto (tgt := 27) dX13_isPerson_23 (by decide) ?_
  refine j_zret rfl (by decide) dX13_isPerson_27 ?_
  exact hp
theorem m_isPersonB {x : Int32} (hX : XM mr) (hM : MM M) (hY : XT mr M) (hTn : mr 1000 3 = some M) (hg : GB t) (hW : WT t) (hR : RM mi M t) (hb : bad x (t 0 5)) (hp : post (some (.int 0)) mi ml mr dom) : CT G 1 0 0 yX13_isPerson cX13_isPerson 2 (some .boolean) [.ref 1000, .int x] mi ml mr dom post := by
  have w := hW.1
  refine enter 0 (by decide) rfl rfl (fun X => ?_)
  refine j_aload_n dX13_isPerson_0 rfl rfl ?_
  refine gR13_335 rfl dX13_isPerson_1 hTn ?_
  refine j_ifnull dX13_isPerson_4 ?_
  refine j_iload_n dX13_isPerson_7 rfl rfl ?_
  refine j_if_lt (tgt := 26) dX13_isPerson_8 (by decide) (fun h8 => ?_) (fun h8 => ?_)
  · refine j_iconst (v := nI 0) dX13_isPerson_26 (by decide) ?_
    refine j_zret rfl (by decide) dX13_isPerson_27 ?_
    exact hp
  · refine j_iload_n dX13_isPerson_11 rfl rfl ?_
    refine j_aload_n dX13_isPerson_12 rfl rfl ?_
    refine gR13_335 rfl dX13_isPerson_13 hTn ?_
    refine gI13_199 (kM0 hM) dX13_isPerson_16 ?_
    rw [hR.1 5 (by decide)]
    refine j_icmp_ge (tgt := 26) dX13_isPerson_19 (by decide) (fun h19 => ?_) (fun h19 => ?_)
    · refine j_iconst (v := nI 0) dX13_isPerson_26 (by decide) ?_
      refine j_zret rfl (by decide) dX13_isPerson_27 ?_
      exact hp
    · exact (hb.elim h8 h19).elim
theorem m_isPersonN {x : Int32} (hTn : mr 1000 3 = none) (hp : post (some (.int 0)) mi ml mr dom) : CT G 1 0 0 yX13_isPerson cX13_isPerson 2 (some .boolean) [.ref 1000, .int x] mi ml mr dom post := by
  refine enter 0 (by decide) rfl rfl (fun X => ?_)
  refine j_aload_n dX13_isPerson_0 rfl rfl ?_
  refine gN13_335 rfl dX13_isPerson_1 hTn ?_
  refine j_ifnullN (tgt := 26) dX13_isPerson_4 (by decide) ?_
  refine j_iconst (v := nI 0) dX13_isPerson_26 (by decide) ?_
  refine j_zret rfl (by decide) dX13_isPerson_27 ?_
  exact hp
theorem m_isGoodG {j : Nat} (hX : XM mr) (hM : MM M) (hY : XT mr M) (hTn : mr 1000 3 = some M) (hg : GB t) (hW : WT t) (hR : RM mi M t) (hj : j < t 0 6) (hp : post (some (.int 1)) mi ml mr dom) : CT G 1 0 0 yX13_isGood cX13_isGood 2 (some .boolean) [.ref 1000, .int (nI j)] mi ml mr dom post := by
  have w := hW.1
  refine enter 0 (by decide) rfl rfl (fun X => ?_)
  refine j_aload_n dX13_isGood_0 rfl rfl ?_
  refine gR13_335 rfl dX13_isGood_1 hTn ?_
  refine j_ifnull dX13_isGood_4 ?_
  refine j_iload_n dX13_isGood_7 rfl rfl ?_
  refine j_if_lt (tgt := 26) dX13_isGood_8 (by decide) (fun h8 => absurd h8 (nI_pos (by omega))) (fun h8 => ?_)
  refine j_iload_n dX13_isGood_11 rfl rfl ?_
  refine j_aload_n dX13_isGood_12 rfl rfl ?_
  refine gR13_335 rfl dX13_isGood_13 hTn ?_
  refine gI13_288 (kM0 hM) dX13_isGood_16 ?_
  rw [hR.1 6 (by decide)]
  refine j_icmp_ge (tgt := 26) dX13_isGood_19 (by decide) (fun h19 => by exfalso; rw [nI_leI (by have := hg 0 6; omega) (by omega)] at h19; have := hg 0 6; omega) (fun h19 => ?_)
  refine j_iconst (v := nI 1) dX13_isGood_22 (by decide) ?_
  refine j_goto (tgt := 27) dX13_isGood_23 (by decide) ?_
  refine j_zret rfl (by decide) dX13_isGood_27 ?_
  exact hp
theorem m_isGoodB {x : Int32} (hX : XM mr) (hM : MM M) (hY : XT mr M) (hTn : mr 1000 3 = some M) (hg : GB t) (hW : WT t) (hR : RM mi M t) (hb : bad x (t 0 6)) (hp : post (some (.int 0)) mi ml mr dom) : CT G 1 0 0 yX13_isGood cX13_isGood 2 (some .boolean) [.ref 1000, .int x] mi ml mr dom post := by
  have w := hW.1
  refine enter 0 (by decide) rfl rfl (fun X => ?_)
  refine j_aload_n dX13_isGood_0 rfl rfl ?_
  refine gR13_335 rfl dX13_isGood_1 hTn ?_
  refine j_ifnull dX13_isGood_4 ?_
  refine j_iload_n dX13_isGood_7 rfl rfl ?_
  refine j_if_lt (tgt := 26) dX13_isGood_8 (by decide) (fun h8 => ?_) (fun h8 => ?_)
  · refine j_iconst (v := nI 0) dX13_isGood_26 (by decide) ?_
    refine j_zret rfl (by decide) dX13_isGood_27 ?_
    exact hp
  · refine j_iload_n dX13_isGood_11 rfl rfl ?_
    refine j_aload_n dX13_isGood_12 rfl rfl ?_
    refine gR13_335 rfl dX13_isGood_13 hTn ?_
    refine gI13_288 (kM0 hM) dX13_isGood_16 ?_
    rw [hR.1 6 (by decide)]
    refine j_icmp_ge (tgt := 26) dX13_isGood_19 (by decide) (fun h19 => ?_) (fun h19 => ?_)
    · refine j_iconst (v := nI 0) dX13_isGood_26 (by decide) ?_
      refine j_zret rfl (by decide) dX13_isGood_27 ?_
      exact hp
    · exact (hb.elim h8 h19).elim
theorem m_isGoodN {x : Int32} (hTn : mr 1000 3 = none) (hp : post (some (.int 0)) mi ml mr dom) : CT G 1 0 0 yX13_isGood cX13_isGood 2 (some .boolean) [.ref 1000, .int x] mi ml mr dom post := by
  refine enter 0 (by decide) rfl rfl (fun X => ?_)
  refine j_aload_n dX13_isGood_0 rfl rfl ?_
  refine gN13_335 rfl dX13_isGood_1 hTn ?_
  refine j_ifnullN (tgt := 26) dX13_isGood_4 (by decide) ?_
  refine j_iconst (v := nI 0) dX13_isGood_26 (by decide) ?_
  refine j_zret rfl (by decide) dX13_isGood_27 ?_
  exact hp
theorem m_isVisitG {j : Nat} (hX : XM mr) (hM : MM M) (hY : XT mr M) (hTn : mr 1000 3 = some M) (hg : GB t) (hW : WT t) (hR : RM mi M t) (hj : j < t 0 7) (hp : post (some (.int 1)) mi ml mr dom) : CT G 1 0 0 yX13_isVisit cX13_isVisit 2 (some .boolean) [.ref 1000, .int (nI j)] mi ml mr dom post := by
  have w := hW.1
  refine enter 0 (by decide) rfl rfl (fun X => ?_)
  refine j_aload_n dX13_isVisit_0 rfl rfl ?_
  refine gR13_335 rfl dX13_isVisit_1 hTn ?_
  refine j_ifnull dX13_isVisit_4 ?_
  refine j_iload_n dX13_isVisit_7 rfl rfl ?_
  refine j_if_lt (tgt := 26) dX13_isVisit_8 (by decide) (fun h8 => absurd h8 (nI_pos (by omega))) (fun h8 => ?_)
  refine j_iload_n dX13_isVisit_11 rfl rfl ?_
  refine j_aload_n dX13_isVisit_12 rfl rfl ?_
  refine gR13_335 rfl dX13_isVisit_13 hTn ?_
  refine gI13_302 (kM0 hM) dX13_isVisit_16 ?_
  rw [hR.1 7 (by decide)]
  refine j_icmp_ge (tgt := 26) dX13_isVisit_19 (by decide) (fun h19 => by exfalso; rw [nI_leI (by have := hg 0 7; omega) (by omega)] at h19; have := hg 0 7; omega) (fun h19 => ?_)
  refine j_iconst (v := nI 1) dX13_isVisit_22 (by decide) ?_
  refine j_goto (tgt := 27) dX13_isVisit_23 (by decide) ?_
  refine j_zret rfl (by decide) dX13_isVisit_27 ?_
  exact hp
theorem m_isVisitB {x : Int32} (hX : XM mr) (hM : MM M) (hY : XT mr M) (hTn : mr 1000 3 = some M) (hg : GB t) (hW : WT t) (hR : RM mi M t) (hb : bad x (t 0 7)) (hp : post (some (.int 0)) mi ml mr dom) : CT G 1 0 0 yX13_isVisit cX13_isVisit 2 (some .boolean) [.ref 1000, .int x] mi ml mr dom post := by
  have w := hW.1
  refine enter 0 (by decide) rfl rfl (fun X => ?_)
  refine j_aload_n dX13_isVisit_0 rfl rfl ?_
  refine gR13_335 rfl dX13_isVisit_1 hTn ?_
  refine j_ifnull dX13_isVisit_4 ?_
  refine j_iload_n dX13_isVisit_7 rfl rfl ?_
  refine j_if_lt (tgt := 26) dX13_isVisit_8 (by decide) (fun h8 => ?_) (fun h8 => ?_)
  · refine j_iconst (v := nI 0) dX13_isVisit_26 (by decide) ?_
    refine j_zret rfl (by decide) dX13_isVisit_27 ?_
    exact hp
  · refine j_iload_n dX13_isVisit_11 rfl rfl ?_
    refine j_aload_n dX13_isVisit_12 rfl rfl ?_
    refine gR13_335 rfl dX13_isVisit_13 hTn ?_
    refine gI13_302 (kM0 hM) dX13_isVisit_16 ?_
    rw [hR.1 7 (by decide)]
    refine j_icmp_ge (tgt := 26) dX13_isVisit_19 (by decide) (fun h19 => ?_) (fun h19 => ?_)
    · refine j_iconst (v := nI 0) dX13_isVisit_26 (by decide) ?_
      refine j_zret rfl (by decide) dX13_isVisit_27 ?_
      exact hp
    · exact (hb.elim h8 h19).elim
theorem m_isVisitN {x : Int32} (hTn : mr 1000 3 = none) (hp : post (some (.int 0)) mi ml mr dom) : CT G 1 0 0 yX13_isVisit cX13_isVisit 2 (some .boolean) [.ref 1000, .int x] mi ml mr dom post := by
  refine enter 0 (by decide) rfl rfl (fun X => ?_)
  refine j_aload_n dX13_isVisit_0 rfl rfl ?_
  refine gN13_335 rfl dX13_isVisit_1 hTn ?_
  refine j_ifnullN (tgt := 26) dX13_isVisit_4 (by decide) ?_
  refine j_iconst (v := nI 0) dX13_isVisit_26 (by decide) ?_
  refine j_zret rfl (by decide) dX13_isVisit_27 ?_
  exact hp
theorem m_isPrintedG {j : Nat} (hX : XM mr) (hM : MM M) (hY : XT mr M) (hTn : mr 1000 3 = some M) (hg : GB t) (hW : WT t) (hR : RM mi M t) (hj : j < t 0 8) (hp : post (some (.int 1)) mi ml mr dom) : CT G 1 0 0 yX13_isPrinted cX13_isPrinted 2 (some .boolean) [.ref 1000, .int (nI j)] mi ml mr dom post := by
  have w := hW.1
  refine enter 0 (by decide) rfl rfl (fun X => ?_)
  refine j_aload_n dX13_isPrinted_0 rfl rfl ?_
  refine gR13_335 rfl dX13_isPrinted_1 hTn ?_
  refine j_ifnull dX13_isPrinted_4 ?_
  refine j_iload_n dX13_isPrinted_7 rfl rfl ?_
  refine j_if_lt (tgt := 26) dX13_isPrinted_8 (by decide) (fun h8 => absurd h8 (nI_pos (by omega))) (fun h8 => ?_)
  refine j_iload_n dX13_isPrinted_11 rfl rfl ?_
  refine j_aload_n dX13_isPrinted_12 rfl rfl ?_
  refine gR13_335 rfl dX13_isPrinted_13 hTn ?_
  refine gI13_316 (kM0 hM) dX13_isPrinted_16 ?_
  rw [hR.1 8 (by decide)]
  refine j_icmp_ge (tgt := 26) dX13_isPrinted_19 (by decide) (fun h19 => by exfalso; rw [nI_leI (by have := hg 0 8; omega) (by omega)] at h19; have := hg 0 8; omega) (fun h19 => ?_)
  refine j_iconst (v := nI 1) dX13_isPrinted_22 (by decide) ?_
  refine j_goto (tgt := 27) dX13_isPrinted_23 (by decide) ?_
  refine j_zret rfl (by decide) dX13_isPrinted_27 ?_
  exact hp
theorem m_isPrintedB {x : Int32} (hX : XM mr) (hM : MM M) (hY : XT mr M) (hTn : mr 1000 3 = some M) (hg : GB t) (hW : WT t) (hR : RM mi M t) (hb : bad x (t 0 8)) (hp : post (some (.int 0)) mi ml mr dom) : CT G 1 0 0 yX13_isPrinted cX13_isPrinted 2 (some .boolean) [.ref 1000, .int x] mi ml mr dom post := by
  have w := hW.1
  refine enter 0 (by decide) rfl rfl (fun X => ?_)
  refine j_aload_n dX13_isPrinted_0 rfl rfl ?_
  refine gR13_335 rfl dX13_isPrinted_1 hTn ?_
  refine j_ifnull dX13_isPrinted_4 ?_
  refine j_iload_n dX13_isPrinted_7 rfl rfl ?_
  refine j_if_lt (tgt := 26) dX13_isPrinted_8 (by decide) (fun h8 => ?_) (fun h8 => ?_)
  · refine j_iconst (v := nI 0) dX13_isPrinted_26 (by decide) ?_
    refine j_zret rfl (by decide) dX13_isPrinted_27 ?_
    exact hp
  · refine j_iload_n dX13_isPrinted_11 rfl rfl ?_
    refine j_aload_n dX13_isPrinted_12 rfl rfl ?_
    refine gR13_335 rfl dX13_isPrinted_13 hTn ?_
    refine gI13_316 (kM0 hM) dX13_isPrinted_16 ?_
    rw [hR.1 8 (by decide)]
    refine j_icmp_ge (tgt := 26) dX13_isPrinted_19 (by decide) (fun h19 => ?_) (fun h19 => ?_)
    · refine j_iconst (v := nI 0) dX13_isPrinted_26 (by decide) ?_
      refine j_zret rfl (by decide) dX13_isPrinted_27 ?_
      exact hp
    · exact (hb.elim h8 h19).elim
theorem m_isPrintedN {x : Int32} (hTn : mr 1000 3 = none) (hp : post (some (.int 0)) mi ml mr dom) : CT G 1 0 0 yX13_isPrinted cX13_isPrinted 2 (some .boolean) [.ref 1000, .int x] mi ml mr dom post := by
  refine enter 0 (by decide) rfl rfl (fun X => ?_)
  refine j_aload_n dX13_isPrinted_0 rfl rfl ?_
  refine gN13_335 rfl dX13_isPrinted_1 hTn ?_
  refine j_ifnullN (tgt := 26) dX13_isPrinted_4 (by decide) ?_
  refine j_iconst (v := nI 0) dX13_isPrinted_26 (by decide) ?_
  refine j_zret rfl (by decide) dX13_isPrinted_27 ?_
  exact hp
theorem m_rhN {x : Int32} (hp : post (some (.int (nI 1))) mi ml mr dom) : CT G 2 0 0 yX13_refusesHour cX13_refusesHour 3 (some .int) [.ref 1000, .int 0, .int x] mi ml mr dom post := by
  refine enter 0 (by decide) rfl rfl (fun X => ?_)
  refine j_iload_n dX13_refusesHour_0 rfl rfl ?_
  refine j_if_ne (tgt := 8) dX13_refusesHour_1 (by decide) (fun h1 => absurd (by decide) h1) (fun h1 => ?_)
  refine j_iconst (v := nI 1) dX13_refusesHour_4 (by decide) ?_
  refine j_goto (tgt := 23) dX13_refusesHour_5 (by decide) ?_
  refine j_iret rfl dX13_refusesHour_23 ?_
  exact hp
theorem m_rhG {j : Nat} (hj : j < 24) (hp : post (some (.int (nI 0))) mi ml mr dom) : CT G 2 0 0 yX13_refusesHour cX13_refusesHour 3 (some .int) [.ref 1000, .int 1, .int (nI j)] mi ml mr dom post := by
  refine enter 0 (by decide) rfl rfl (fun X => ?_)
  refine j_iload_n dX13_refusesHour_0 rfl rfl ?_
  refine j_if_ne (tgt := 8) dX13_refusesHour_1 (by decide) (fun h1 => ?_) (fun h1 => absurd h1 (by decide))
  refine j_iload_n dX13_refusesHour_8 rfl rfl ?_
  refine j_iconst (v := nI 0) dX13_refusesHour_9 (by decide) ?_
  refine j_bipush (v := nI 23) dX13_refusesHour_10 (by decide) ?_
  refine cS13_129 (d1 := 1) dX13_refusesHour_12 (by decide) (Nat.le_of_ble_eq_true rfl) ?_
  refine m_inG (by show 0 ≤ j; omega) (by show j ≤ 23; omega) (by decide) ?_
  refine j_if_eq (tgt := 22) dX13_refusesHour_15 (by decide) (fun h15 => absurd h15 (by decide)) (fun h15 => ?_)
  refine j_iconst (v := nI 0) dX13_refusesHour_18 (by decide) ?_
  refine j_goto (tgt := 23) dX13_refusesHour_19 (by decide) ?_
  refine j_iret rfl dX13_refusesHour_23 ?_
  exact hp
theorem m_rhB {x : Int32} (hb : bad x 24) (hp : post (some (.int (nI 2))) mi ml mr dom) : CT G 2 0 0 yX13_refusesHour cX13_refusesHour 3 (some .int) [.ref 1000, .int 1, .int x] mi ml mr dom post := by
  refine enter 0 (by decide) rfl rfl (fun X => ?_)
  refine j_iload_n dX13_refusesHour_0 rfl rfl ?_
  refine j_if_ne (tgt := 8) dX13_refusesHour_1 (by decide) (fun h1 => ?_) (fun h1 => absurd h1 (by decide))
  refine j_iload_n dX13_refusesHour_8 rfl rfl ?_
  refine j_iconst (v := nI 0) dX13_refusesHour_9 (by decide) ?_
  refine j_bipush (v := nI 23) dX13_refusesHour_10 (by decide) ?_
  refine cS13_129 (d1 := 1) dX13_refusesHour_12 (by decide) (Nat.le_of_ble_eq_true rfl) ?_
  refine m_inB (bad_in (n := 24) (by decide) (by decide) hb) ?_
  refine j_if_eq (tgt := 22) dX13_refusesHour_15 (by decide) (fun h15 => ?_) (fun h15 => absurd (by decide) h15)
  refine j_iconst (v := nI 2) dX13_refusesHour_22 (by decide) ?_
  refine j_iret rfl dX13_refusesHour_23 ?_
  exact hp
theorem mx_houseN {h x : Int32} (hTn : mr 1000 3 = none)  (hp : post (some (.int (-1))) (rf mi (nI 1)) ml mr dom) : CT G 3 0 0 yX13_house cX13_house 5 (some .int) [.ref 1000, .int h, .int x] mi ml mr dom post := by
  refine enter 2 (by decide) rfl rfl (fun X => ?_)
  refine j_aload_n dX13_house_0 rfl rfl ?_
  refine j_iconst (v := nI 0) dX13_house_1 (by decide) ?_
  refine pI13_51 rfl dX13_house_2 ?_
  obtain ⟨m1, e1⟩ : ∃ m, m = up mi 1000 0 (nI 0) := ⟨_, rfl⟩
  rw [← e1]
  refine j_aload_n dX13_house_5 rfl rfl ?_
  refine j_iload_n dX13_house_6 rfl rfl ?_
  refine cV13_352 (d1 := 1) rfl dX13_house_7 (by decide) (Nat.le_of_ble_eq_true rfl) ?_
  refine m_isHouseN hTn ?_
  refine j_if_eq (tgt := 22) dX13_house_10 (by decide) (fun h10 => ?_) (fun h10 => absurd (by decide) h10)
  refine j_aload_n dX13_house_22 rfl rfl ?_
  refine j_iconst (v := nI 1) dX13_house_23 (by decide) ?_
  refine cV13_57 (d1 := 1) rfl dX13_house_24 (by decide) (Nat.le_of_ble_eq_true rfl) ?_
  refine m_refused ?_
  refine j_iret rfl dX13_house_27 ?_
  rw [e1]; exact hp
theorem mx_personN {p x : Int32} (hTn : mr 1000 3 = none)  (hp : post (some (.int (-1))) (rf mi (nI 1)) ml mr dom) : CT G 3 0 0 yX13_person cX13_person 3 (some .int) [.ref 1000, .int p, .int x] mi ml mr dom post := by
  refine enter 0 (by decide) rfl rfl (fun X => ?_)
  refine j_aload_n dX13_person_0 rfl rfl ?_
  refine j_iconst (v := nI 0) dX13_person_1 (by decide) ?_
  refine pI13_51 rfl dX13_person_2 ?_
  obtain ⟨m1, e1⟩ : ∃ m, m = up mi 1000 0 (nI 0) := ⟨_, rfl⟩
  rw [← e1]
  refine j_aload_n dX13_person_5 rfl rfl ?_
  refine j_iload_n dX13_person_6 rfl rfl ?_
  refine cV13_355 (d1 := 1) rfl dX13_person_7 (by decide) (Nat.le_of_ble_eq_true rfl) ?_
  refine m_isPersonN hTn ?_
  refine j_if_eq (tgt := 22) dX13_person_10 (by decide) (fun h10 => ?_) (fun h10 => absurd (by decide) h10)
  refine j_aload_n dX13_person_22 rfl rfl ?_
  refine j_iconst (v := nI 1) dX13_person_23 (by decide) ?_
  refine cV13_57 (d1 := 1) rfl dX13_person_24 (by decide) (Nat.le_of_ble_eq_true rfl) ?_
  refine m_refused ?_
  refine j_iret rfl dX13_person_27 ?_
  rw [e1]; exact hp
theorem mx_markN {p i : Int32} (hTn : mr 1000 3 = none)  (hp : post (some (.int (-1))) (rf mi (nI 1)) ml mr dom) : CT G 3 0 0 yX13_mark cX13_mark 3 (some .int) [.ref 1000, .int p, .int i] mi ml mr dom post := by
  refine enter 0 (by decide) rfl rfl (fun X => ?_)
  refine j_aload_n dX13_mark_0 rfl rfl ?_
  refine j_iconst (v := nI 0) dX13_mark_1 (by decide) ?_
  refine pI13_51 rfl dX13_mark_2 ?_
  obtain ⟨m1, e1⟩ : ∃ m, m = up mi 1000 0 (nI 0) := ⟨_, rfl⟩
  rw [← e1]
  refine j_aload_n dX13_mark_5 rfl rfl ?_
  refine j_iload_n dX13_mark_6 rfl rfl ?_
  refine cV13_355 (d1 := 1) rfl dX13_mark_7 (by decide) (Nat.le_of_ble_eq_true rfl) ?_
  refine m_isPersonN hTn ?_
  refine j_if_eq (tgt := 42) dX13_mark_10 (by decide) (fun h10 => ?_) (fun h10 => absurd (by decide) h10)
  refine j_aload_n dX13_mark_42 rfl rfl ?_
  refine j_iconst (v := nI 1) dX13_mark_43 (by decide) ?_
  refine cV13_57 (d1 := 1) rfl dX13_mark_44 (by decide) (Nat.le_of_ble_eq_true rfl) ?_
  refine m_refused ?_
  refine j_iret rfl dX13_mark_47 ?_
  rw [e1]; exact hp
theorem mx_goodN {g x : Int32} (hTn : mr 1000 3 = none)  (hp : post (some (.int (-1))) (rf mi (nI 1)) ml mr dom) : CT G 3 0 0 yX13_good cX13_good 3 (some .int) [.ref 1000, .int g, .int x] mi ml mr dom post := by
  refine enter 0 (by decide) rfl rfl (fun X => ?_)
  refine j_aload_n dX13_good_0 rfl rfl ?_
  refine j_iconst (v := nI 0) dX13_good_1 (by decide) ?_
  refine pI13_51 rfl dX13_good_2 ?_
  obtain ⟨m1, e1⟩ : ∃ m, m = up mi 1000 0 (nI 0) := ⟨_, rfl⟩
  rw [← e1]
  refine j_aload_n dX13_good_5 rfl rfl ?_
  refine j_iload_n dX13_good_6 rfl rfl ?_
  refine cV13_361 (d1 := 1) rfl dX13_good_7 (by decide) (Nat.le_of_ble_eq_true rfl) ?_
  refine m_isGoodN hTn ?_
  refine j_if_eq (tgt := 22) dX13_good_10 (by decide) (fun h10 => ?_) (fun h10 => absurd (by decide) h10)
  refine j_aload_n dX13_good_22 rfl rfl ?_
  refine j_iconst (v := nI 1) dX13_good_23 (by decide) ?_
  refine cV13_57 (d1 := 1) rfl dX13_good_24 (by decide) (Nat.le_of_ble_eq_true rfl) ?_
  refine m_refused ?_
  refine j_iret rfl dX13_good_27 ?_
  rw [e1]; exact hp
theorem mx_lightN {x : Int32} (hTn : mr 1000 3 = none)  (hp : post (some (.int (-1))) (rf mi (nI 1)) ml mr dom) : CT G 3 0 0 yX13_light cX13_light 2 (some .int) [.ref 1000, .int x] mi ml mr dom post := by
  refine enter 0 (by decide) rfl rfl (fun X => ?_)
  refine j_aload_n dX13_light_0 rfl rfl ?_
  refine j_iconst (v := nI 0) dX13_light_1 (by decide) ?_
  refine pI13_51 rfl dX13_light_2 ?_
  obtain ⟨m1, e1⟩ : ∃ m, m = up mi 1000 0 (nI 0) := ⟨_, rfl⟩
  rw [← e1]
  refine j_aload_n dX13_light_5 rfl rfl ?_
  refine gN13_335 rfl dX13_light_6 hTn ?_
  refine j_ifnonnullN dX13_light_9 ?_
  refine j_aload_n dX13_light_12 rfl rfl ?_
  refine j_iconst (v := nI 1) dX13_light_13 (by decide) ?_
  refine cV13_57 (d1 := 1) rfl dX13_light_14 (by decide) (Nat.le_of_ble_eq_true rfl) ?_
  refine m_refused ?_
  refine j_iret rfl dX13_light_17 ?_
  rw [e1]; exact hp
theorem mx_seenN {p h x : Int32} (hTn : mr 1000 3 = none)  (hp : post (some (.int (-1))) (rf mi (nI 1)) ml mr dom) : CT G 3 0 0 yX13_seen cX13_seen 5 (some .int) [.ref 1000, .int p, .int h, .int x] mi ml mr dom post := by
  refine enter 1 (by decide) rfl rfl (fun X => ?_)
  refine j_aload_n dX13_seen_0 rfl rfl ?_
  refine j_iconst (v := nI 0) dX13_seen_1 (by decide) ?_
  refine pI13_51 rfl dX13_seen_2 ?_
  obtain ⟨m1, e1⟩ : ∃ m, m = up mi 1000 0 (nI 0) := ⟨_, rfl⟩
  rw [← e1]
  refine j_aload_n dX13_seen_5 rfl rfl ?_
  refine j_aload_n dX13_seen_6 rfl rfl ?_
  refine j_iload_n dX13_seen_7 rfl rfl ?_
  refine cV13_355 (d1 := 1) rfl dX13_seen_8 (by decide) (Nat.le_of_ble_eq_true rfl) ?_
  refine m_isPersonN hTn ?_
  refine j_if_eq (tgt := 26) dX13_seen_11 (by decide) (fun h11 => ?_) (fun h11 => absurd (by decide) h11)
  refine j_iconst (v := nI 0) dX13_seen_26 (by decide) ?_
  refine j_iload_n dX13_seen_27 rfl rfl ?_
  refine cV13_370 (d1 := 2) rfl dX13_seen_28 (by decide) (Nat.le_of_ble_eq_true rfl) ?_
  refine m_rhN ?_
  refine j_istore (lv2 := [_, _, _, _, _]) dX13_seen_31 (by decide) rfl rfl ?_
  refine j_iload dX13_seen_33 rfl ?_
  refine j_if_le (tgt := 47) dX13_seen_35 (by decide) (fun h35 => absurd h35 (by decide)) (fun h35 => ?_)
  refine j_aload_n dX13_seen_38 rfl rfl ?_
  refine j_iload dX13_seen_39 rfl ?_
  refine cV13_57 (d1 := 1) rfl dX13_seen_41 (by decide) (Nat.le_of_ble_eq_true rfl) ?_
  refine m_refused ?_
  refine j_goto (tgt := 61) dX13_seen_44 (by decide) ?_
  refine j_iret rfl dX13_seen_61 ?_
  rw [e1]; exact hp
theorem mx_takenN {p h x : Int32} (hTn : mr 1000 3 = none)  (hp : post (some (.int (-1))) (rf mi (nI 1)) ml mr dom) : CT G 3 0 0 yX13_taken cX13_taken 5 (some .int) [.ref 1000, .int p, .int h, .int x] mi ml mr dom post := by
  refine enter 1 (by decide) rfl rfl (fun X => ?_)
  refine j_aload_n dX13_taken_0 rfl rfl ?_
  refine j_iconst (v := nI 0) dX13_taken_1 (by decide) ?_
  refine pI13_51 rfl dX13_taken_2 ?_
  obtain ⟨m1, e1⟩ : ∃ m, m = up mi 1000 0 (nI 0) := ⟨_, rfl⟩
  rw [← e1]
  refine j_aload_n dX13_taken_5 rfl rfl ?_
  refine j_aload_n dX13_taken_6 rfl rfl ?_
  refine j_iload_n dX13_taken_7 rfl rfl ?_
  refine cV13_355 (d1 := 1) rfl dX13_taken_8 (by decide) (Nat.le_of_ble_eq_true rfl) ?_
  refine m_isPersonN hTn ?_
  refine j_if_eq (tgt := 26) dX13_taken_11 (by decide) (fun h11 => ?_) (fun h11 => absurd (by decide) h11)
  refine j_iconst (v := nI 0) dX13_taken_26 (by decide) ?_
  refine j_iload_n dX13_taken_27 rfl rfl ?_
  refine cV13_370 (d1 := 2) rfl dX13_taken_28 (by decide) (Nat.le_of_ble_eq_true rfl) ?_
  refine m_rhN ?_
  refine j_istore (lv2 := [_, _, _, _, _]) dX13_taken_31 (by decide) rfl rfl ?_
  refine j_iload dX13_taken_33 rfl ?_
  refine j_if_le (tgt := 47) dX13_taken_35 (by decide) (fun h35 => absurd h35 (by decide)) (fun h35 => ?_)
  refine j_aload_n dX13_taken_38 rfl rfl ?_
  refine j_iload dX13_taken_39 rfl ?_
  refine cV13_57 (d1 := 1) rfl dX13_taken_41 (by decide) (Nat.le_of_ble_eq_true rfl) ?_
  refine m_refused ?_
  refine j_goto (tgt := 58) dX13_taken_44 (by decide) ?_
  refine j_iret rfl dX13_taken_58 ?_
  rw [e1]; exact hp
theorem mx_fineN {p h x : Int32} (hTn : mr 1000 3 = none)  (hp : post (some (.int (-1))) (rf mi (nI 1)) ml mr dom) : CT G 3 0 0 yX13_fine cX13_fine 5 (some .int) [.ref 1000, .int p, .int h, .int x] mi ml mr dom post := by
  refine enter 1 (by decide) rfl rfl (fun X => ?_)
  refine j_aload_n dX13_fine_0 rfl rfl ?_
  refine j_iconst (v := nI 0) dX13_fine_1 (by decide) ?_
  refine pI13_51 rfl dX13_fine_2 ?_
  obtain ⟨m1, e1⟩ : ∃ m, m = up mi 1000 0 (nI 0) := ⟨_, rfl⟩
  rw [← e1]
  refine j_aload_n dX13_fine_5 rfl rfl ?_
  refine j_aload_n dX13_fine_6 rfl rfl ?_
  refine j_iload_n dX13_fine_7 rfl rfl ?_
  refine cV13_355 (d1 := 1) rfl dX13_fine_8 (by decide) (Nat.le_of_ble_eq_true rfl) ?_
  refine m_isPersonN hTn ?_
  refine j_if_eq (tgt := 26) dX13_fine_11 (by decide) (fun h11 => ?_) (fun h11 => absurd (by decide) h11)
  refine j_iconst (v := nI 0) dX13_fine_26 (by decide) ?_
  refine j_iload_n dX13_fine_27 rfl rfl ?_
  refine cV13_370 (d1 := 2) rfl dX13_fine_28 (by decide) (Nat.le_of_ble_eq_true rfl) ?_
  refine m_rhN ?_
  refine j_istore (lv2 := [_, _, _, _, _]) dX13_fine_31 (by decide) rfl rfl ?_
  refine j_iload dX13_fine_33 rfl ?_
  refine j_if_le (tgt := 47) dX13_fine_35 (by decide) (fun h35 => absurd h35 (by decide)) (fun h35 => ?_)
  refine j_aload_n dX13_fine_38 rfl rfl ?_
  refine j_iload dX13_fine_39 rfl ?_
  refine cV13_57 (d1 := 1) rfl dX13_fine_41 (by decide) (Nat.le_of_ble_eq_true rfl) ?_
  refine m_refused ?_
  refine j_goto (tgt := 69) dX13_fine_44 (by decide) ?_
  refine j_iret rfl dX13_fine_69 ?_
  rw [e1]; exact hp
theorem mx_visitN {k x : Int32} (hTn : mr 1000 3 = none)  (hp : post (some (.int (-1))) (rf mi (nI 1)) ml mr dom) : CT G 3 0 0 yX13_visit cX13_visit 4 (some .int) [.ref 1000, .int k, .int x] mi ml mr dom post := by
  refine enter 1 (by decide) rfl rfl (fun X => ?_)
  refine j_aload_n dX13_visit_0 rfl rfl ?_
  refine j_iconst (v := nI 0) dX13_visit_1 (by decide) ?_
  refine pI13_51 rfl dX13_visit_2 ?_
  obtain ⟨m1, e1⟩ : ∃ m, m = up mi 1000 0 (nI 0) := ⟨_, rfl⟩
  rw [← e1]
  refine j_iload_n dX13_visit_5 rfl rfl ?_
  refine j_istore_n (lv2 := [_, _, _, _]) dX13_visit_6 rfl (by decide) rfl rfl ?_
  refine j_aload_n dX13_visit_7 rfl rfl ?_
  refine j_iload_n dX13_visit_8 rfl rfl ?_
  refine cV13_391 (d1 := 1) rfl dX13_visit_9 (by decide) (Nat.le_of_ble_eq_true rfl) ?_
  refine m_isVisitN hTn ?_
  refine j_if_eq (tgt := 24) dX13_visit_12 (by decide) (fun h12 => ?_) (fun h12 => absurd (by decide) h12)
  refine j_aload_n dX13_visit_24 rfl rfl ?_
  refine j_iconst (v := nI 1) dX13_visit_25 (by decide) ?_
  refine cV13_57 (d1 := 1) rfl dX13_visit_26 (by decide) (Nat.le_of_ble_eq_true rfl) ?_
  refine m_refused ?_
  refine j_iret rfl dX13_visit_29 ?_
  rw [e1]; exact hp
theorem mx_pairsN {h x : Int32} (hTn : mr 1000 3 = none)  (hp : post (some (.int (-1))) (rf mi (nI 1)) ml mr dom) : CT G 3 0 0 yX13_pairs cX13_pairs 6 (some .int) [.ref 1000, .int h, .int x] mi ml mr dom post := by
  refine enter 3 (by decide) rfl rfl (fun X => ?_)
  refine j_aload_n dX13_pairs_0 rfl rfl ?_
  refine j_iconst (v := nI 0) dX13_pairs_1 (by decide) ?_
  refine pI13_51 rfl dX13_pairs_2 ?_
  obtain ⟨m1, e1⟩ : ∃ m, m = up mi 1000 0 (nI 0) := ⟨_, rfl⟩
  rw [← e1]
  refine j_aload_n dX13_pairs_5 rfl rfl ?_
  refine j_aload_n dX13_pairs_6 rfl rfl ?_
  refine j_iload_n dX13_pairs_7 rfl rfl ?_
  refine cV13_352 (d1 := 1) rfl dX13_pairs_8 (by decide) (Nat.le_of_ble_eq_true rfl) ?_
  refine m_isHouseN hTn ?_
  refine j_iload_n dX13_pairs_11 rfl rfl ?_
  refine cV13_370 (d1 := 2) rfl dX13_pairs_12 (by decide) (Nat.le_of_ble_eq_true rfl) ?_
  refine m_rhN ?_
  refine j_istore_n (lv2 := [_, _, _, _, _, _]) dX13_pairs_15 rfl (by decide) rfl rfl ?_
  refine j_iload_n dX13_pairs_16 rfl rfl ?_
  refine j_if_le (tgt := 26) dX13_pairs_17 (by decide) (fun h17 => absurd h17 (by decide)) (fun h17 => ?_)
  refine j_aload_n dX13_pairs_20 rfl rfl ?_
  refine j_iload_n dX13_pairs_21 rfl rfl ?_
  refine cV13_57 (d1 := 1) rfl dX13_pairs_22 (by decide) (Nat.le_of_ble_eq_true rfl) ?_
  refine m_refused ?_
  refine j_iret rfl dX13_pairs_25 ?_
  rw [e1]; exact hp
theorem mx_knownAtN {p : Int32} (hTn : mr 1000 3 = none)  (hp : post (some (.int (-1))) (rf mi (nI 1)) ml mr dom) : CT G 3 0 0 yX13_knownAt cX13_knownAt 4 (some .int) [.ref 1000, .int p] mi ml mr dom post := by
  refine enter 2 (by decide) rfl rfl (fun X => ?_)
  refine j_aload_n dX13_knownAt_0 rfl rfl ?_
  refine j_iconst (v := nI 0) dX13_knownAt_1 (by decide) ?_
  refine pI13_51 rfl dX13_knownAt_2 ?_
  obtain ⟨m1, e1⟩ : ∃ m, m = up mi 1000 0 (nI 0) := ⟨_, rfl⟩
  rw [← e1]
  refine j_aload_n dX13_knownAt_5 rfl rfl ?_
  refine j_iload_n dX13_knownAt_6 rfl rfl ?_
  refine cV13_355 (d1 := 1) rfl dX13_knownAt_7 (by decide) (Nat.le_of_ble_eq_true rfl) ?_
  refine m_isPersonN hTn ?_
  refine j_if_ne (tgt := 19) dX13_knownAt_10 (by decide) (fun h10 => absurd (by decide) h10) (fun h10 => ?_)
  refine j_aload_n dX13_knownAt_13 rfl rfl ?_
  refine j_iconst (v := nI 1) dX13_knownAt_14 (by decide) ?_
  refine cV13_57 (d1 := 1) rfl dX13_knownAt_15 (by decide) (Nat.le_of_ble_eq_true rfl) ?_
  refine m_refused ?_
  refine j_iret rfl dX13_knownAt_18 ?_
  rw [e1]; exact hp
theorem mx_finesN {p : Int32} (hTn : mr 1000 3 = none)  (hp : post (some (.int (-1))) (rf mi (nI 1)) ml mr dom) : CT G 3 0 0 yX13_fines cX13_fines 4 (some .int) [.ref 1000, .int p] mi ml mr dom post := by
  refine enter 2 (by decide) rfl rfl (fun X => ?_)
  refine j_aload_n dX13_fines_0 rfl rfl ?_
  refine j_iconst (v := nI 0) dX13_fines_1 (by decide) ?_
  refine pI13_51 rfl dX13_fines_2 ?_
  obtain ⟨m1, e1⟩ : ∃ m, m = up mi 1000 0 (nI 0) := ⟨_, rfl⟩
  rw [← e1]
  refine j_aload_n dX13_fines_5 rfl rfl ?_
  refine j_iload_n dX13_fines_6 rfl rfl ?_
  refine cV13_355 (d1 := 1) rfl dX13_fines_7 (by decide) (Nat.le_of_ble_eq_true rfl) ?_
  refine m_isPersonN hTn ?_
  refine j_if_ne (tgt := 19) dX13_fines_10 (by decide) (fun h10 => absurd (by decide) h10) (fun h10 => ?_)
  refine j_aload_n dX13_fines_13 rfl rfl ?_
  refine j_iconst (v := nI 1) dX13_fines_14 (by decide) ?_
  refine cV13_57 (d1 := 1) rfl dX13_fines_15 (by decide) (Nat.le_of_ble_eq_true rfl) ?_
  refine m_refused ?_
  refine j_iret rfl dX13_fines_18 ?_
  rw [e1]; exact hp
theorem mx_baresN {p : Int32} (hTn : mr 1000 3 = none)  (hp : post (some (.int (-1))) (rf mi (nI 1)) ml mr dom) : CT G 3 0 0 yX13_bares cX13_bares 4 (some .int) [.ref 1000, .int p] mi ml mr dom post := by
  refine enter 2 (by decide) rfl rfl (fun X => ?_)
  refine j_aload_n dX13_bares_0 rfl rfl ?_
  refine j_iconst (v := nI 0) dX13_bares_1 (by decide) ?_
  refine pI13_51 rfl dX13_bares_2 ?_
  obtain ⟨m1, e1⟩ : ∃ m, m = up mi 1000 0 (nI 0) := ⟨_, rfl⟩
  rw [← e1]
  refine j_aload_n dX13_bares_5 rfl rfl ?_
  refine j_iload_n dX13_bares_6 rfl rfl ?_
  refine cV13_355 (d1 := 1) rfl dX13_bares_7 (by decide) (Nat.le_of_ble_eq_true rfl) ?_
  refine m_isPersonN hTn ?_
  refine j_if_ne (tgt := 19) dX13_bares_10 (by decide) (fun h10 => absurd (by decide) h10) (fun h10 => ?_)
  refine j_aload_n dX13_bares_13 rfl rfl ?_
  refine j_iconst (v := nI 1) dX13_bares_14 (by decide) ?_
  refine cV13_57 (d1 := 1) rfl dX13_bares_15 (by decide) (Nat.le_of_ble_eq_true rfl) ?_
  refine m_refused ?_
  refine j_iret rfl dX13_bares_18 ?_
  rw [e1]; exact hp
theorem mx_metN {k : Int32} (hTn : mr 1000 3 = none)  (hp : post (some (.int (-1))) (rf mi (nI 1)) ml mr dom) : CT G 3 0 0 yX13_met cX13_met 5 (some .int) [.ref 1000, .int k] mi ml mr dom post := by
  refine enter 3 (by decide) rfl rfl (fun X => ?_)
  refine j_aload_n dX13_met_0 rfl rfl ?_
  refine j_iconst (v := nI 0) dX13_met_1 (by decide) ?_
  refine pI13_51 rfl dX13_met_2 ?_
  obtain ⟨m1, e1⟩ : ∃ m, m = up mi 1000 0 (nI 0) := ⟨_, rfl⟩
  rw [← e1]
  refine j_iload_n dX13_met_5 rfl rfl ?_
  refine j_istore_n (lv2 := [_, _, _, _, _]) dX13_met_6 rfl (by decide) rfl rfl ?_
  refine j_aload_n dX13_met_7 rfl rfl ?_
  refine j_iload_n dX13_met_8 rfl rfl ?_
  refine cV13_391 (d1 := 1) rfl dX13_met_9 (by decide) (Nat.le_of_ble_eq_true rfl) ?_
  refine m_isVisitN hTn ?_
  refine j_if_ne (tgt := 21) dX13_met_12 (by decide) (fun h12 => absurd (by decide) h12) (fun h12 => ?_)
  refine j_aload_n dX13_met_15 rfl rfl ?_
  refine j_iconst (v := nI 1) dX13_met_16 (by decide) ?_
  refine cV13_57 (d1 := 1) rfl dX13_met_17 (by decide) (Nat.le_of_ble_eq_true rfl) ?_
  refine m_refused ?_
  refine j_iret rfl dX13_met_20 ?_
  rw [e1]; exact hp
theorem mx_busiestN  (hTn : mr 1000 3 = none)  (hp : post (some (.int (-1))) (rf mi (nI 1)) ml mr dom) : CT G 3 0 0 yX13_busiest cX13_busiest 6 (some .int) [.ref 1000] mi ml mr dom post := by
  refine enter 5 (by decide) rfl rfl (fun X => ?_)
  refine j_aload_n dX13_busiest_0 rfl rfl ?_
  refine j_iconst (v := nI 0) dX13_busiest_1 (by decide) ?_
  refine pI13_51 rfl dX13_busiest_2 ?_
  obtain ⟨m1, e1⟩ : ∃ m, m = up mi 1000 0 (nI 0) := ⟨_, rfl⟩
  rw [← e1]
  refine j_aload_n dX13_busiest_5 rfl rfl ?_
  refine gN13_335 rfl dX13_busiest_6 hTn ?_
  refine j_ifnonnullN dX13_busiest_9 ?_
  refine j_aload_n dX13_busiest_12 rfl rfl ?_
  refine j_iconst (v := nI 1) dX13_busiest_13 (by decide) ?_
  refine cV13_57 (d1 := 1) rfl dX13_busiest_14 (by decide) (Nat.le_of_ble_eq_true rfl) ?_
  refine m_refused ?_
  refine j_iret rfl dX13_busiest_17 ?_
  rw [e1]; exact hp
theorem mx_apartN {p q : Int32} (hTn : mr 1000 3 = none)  (hp : post (some (.int (-1))) (rf mi (nI 1)) ml mr dom) : CT G 3 0 0 yX13_apart cX13_apart 5 (some .int) [.ref 1000, .int p, .int q] mi ml mr dom post := by
  refine enter 2 (by decide) rfl rfl (fun X => ?_)
  refine j_aload_n dX13_apart_0 rfl rfl ?_
  refine j_iconst (v := nI 0) dX13_apart_1 (by decide) ?_
  refine pI13_51 rfl dX13_apart_2 ?_
  obtain ⟨m1, e1⟩ : ∃ m, m = up mi 1000 0 (nI 0) := ⟨_, rfl⟩
  rw [← e1]
  refine j_aload_n dX13_apart_5 rfl rfl ?_
  refine j_iload_n dX13_apart_6 rfl rfl ?_
  refine cV13_355 (d1 := 1) rfl dX13_apart_7 (by decide) (Nat.le_of_ble_eq_true rfl) ?_
  refine m_isPersonN hTn ?_
  refine j_if_eq (tgt := 26) dX13_apart_10 (by decide) (fun h10 => ?_) (fun h10 => absurd (by decide) h10)
  refine j_aload_n dX13_apart_26 rfl rfl ?_
  refine j_iconst (v := nI 1) dX13_apart_27 (by decide) ?_
  refine cV13_57 (d1 := 1) rfl dX13_apart_28 (by decide) (Nat.le_of_ble_eq_true rfl) ?_
  refine m_refused ?_
  refine j_iret rfl dX13_apart_31 ?_
  rw [e1]; exact hp
theorem mx_tellsN  (hTn : mr 1000 3 = none)  (hp : post (some (.int (-1))) (rf mi (nI 1)) ml mr dom) : CT G 3 0 0 yX13_tells cX13_tells 3 (some .int) [.ref 1000] mi ml mr dom post := by
  refine enter 2 (by decide) rfl rfl (fun X => ?_)
  refine j_aload_n dX13_tells_0 rfl rfl ?_
  refine j_iconst (v := nI 0) dX13_tells_1 (by decide) ?_
  refine pI13_51 rfl dX13_tells_2 ?_
  obtain ⟨m1, e1⟩ : ∃ m, m = up mi 1000 0 (nI 0) := ⟨_, rfl⟩
  rw [← e1]
  refine j_aload_n dX13_tells_5 rfl rfl ?_
  refine gN13_335 rfl dX13_tells_6 hTn ?_
  refine j_ifnonnullN dX13_tells_9 ?_
  refine j_aload_n dX13_tells_12 rfl rfl ?_
  refine j_iconst (v := nI 1) dX13_tells_13 (by decide) ?_
  refine cV13_57 (d1 := 1) rfl dX13_tells_14 (by decide) (Nat.le_of_ble_eq_true rfl) ?_
  refine m_refused ?_
  refine j_iret rfl dX13_tells_17 ?_
  rw [e1]; exact hp
theorem mx_anotherN {s : Int32} (hTn : mr 1000 3 = none)  (hp : post (some (.int (-1))) (rf mi (nI 1)) ml mr dom) : CT G 3 0 0 yX13_another cX13_another 2 (some .int) [.ref 1000, .int s] mi ml mr dom post := by
  refine enter 0 (by decide) rfl rfl (fun X => ?_)
  refine j_aload_n dX13_another_0 rfl rfl ?_
  refine j_iconst (v := nI 0) dX13_another_1 (by decide) ?_
  refine pI13_51 rfl dX13_another_2 ?_
  obtain ⟨m1, e1⟩ : ∃ m, m = up mi 1000 0 (nI 0) := ⟨_, rfl⟩
  rw [← e1]
  refine j_aload_n dX13_another_5 rfl rfl ?_
  refine gN13_335 rfl dX13_another_6 hTn ?_
  refine j_ifnonnullN dX13_another_9 ?_
  refine j_aload_n dX13_another_12 rfl rfl ?_
  refine j_iconst (v := nI 1) dX13_another_13 (by decide) ?_
  refine cV13_57 (d1 := 1) rfl dX13_another_14 (by decide) (Nat.le_of_ble_eq_true rfl) ?_
  refine m_refused ?_
  refine j_iret rfl dX13_another_17 ?_
  rw [e1]; exact hp
theorem mx_leastSillN  (hTn : mr 1000 3 = none)  (hp : post (some (.int (-1))) (rf mi (nI 1)) ml mr dom) : CT G 3 0 0 yX13_leastSill cX13_leastSill 2 (some .int) [.ref 1000] mi ml mr dom post := by
  refine enter 1 (by decide) rfl rfl (fun X => ?_)
  refine j_aload_n dX13_leastSill_0 rfl rfl ?_
  refine j_iconst (v := nI 0) dX13_leastSill_1 (by decide) ?_
  refine pI13_51 rfl dX13_leastSill_2 ?_
  obtain ⟨m1, e1⟩ : ∃ m, m = up mi 1000 0 (nI 0) := ⟨_, rfl⟩
  rw [← e1]
  refine j_aload_n dX13_leastSill_5 rfl rfl ?_
  refine gN13_335 rfl dX13_leastSill_6 hTn ?_
  refine j_ifnonnullN dX13_leastSill_9 ?_
  refine j_aload_n dX13_leastSill_12 rfl rfl ?_
  refine j_iconst (v := nI 1) dX13_leastSill_13 (by decide) ?_
  refine cV13_57 (d1 := 1) rfl dX13_leastSill_14 (by decide) (Nat.le_of_ble_eq_true rfl) ?_
  refine m_refused ?_
  refine j_iret rfl dX13_leastSill_17 ?_
  rw [e1]; exact hp
theorem mx_wayN {h g : Int32} (hTn : mr 1000 3 = none)  (hp : post (some (.int (-1))) (rf mi (nI 1)) ml mr dom) : CT G 3 0 0 yX13_way cX13_way 3 (some .int) [.ref 1000, .int h, .int g] mi ml mr dom post := by
  refine enter 0 (by decide) rfl rfl (fun X => ?_)
  refine j_aload_n dX13_way_0 rfl rfl ?_
  refine j_iconst (v := nI 0) dX13_way_1 (by decide) ?_
  refine pI13_51 rfl dX13_way_2 ?_
  obtain ⟨m1, e1⟩ : ∃ m, m = up mi 1000 0 (nI 0) := ⟨_, rfl⟩
  rw [← e1]
  refine j_aload_n dX13_way_5 rfl rfl ?_
  refine j_iload_n dX13_way_6 rfl rfl ?_
  refine cV13_352 (d1 := 1) rfl dX13_way_7 (by decide) (Nat.le_of_ble_eq_true rfl) ?_
  refine m_isHouseN hTn ?_
  refine j_if_eq (tgt := 21) dX13_way_10 (by decide) (fun h10 => ?_) (fun h10 => absurd (by decide) h10)
  refine j_aload_n dX13_way_21 rfl rfl ?_
  refine j_iconst (v := nI 1) dX13_way_22 (by decide) ?_
  refine cV13_57 (d1 := 1) rfl dX13_way_23 (by decide) (Nat.le_of_ble_eq_true rfl) ?_
  refine m_refused ?_
  refine j_iret rfl dX13_way_26 ?_
  rw [e1]; exact hp
theorem mx_wayAtN {h g i : Int32} (hTn : mr 1000 3 = none)  (hp : post (some (.int (-1))) (rf mi (nI 1)) ml mr dom) : CT G 3 0 0 yX13_wayAt cX13_wayAt 7 (some .int) [.ref 1000, .int h, .int g, .int i] mi ml mr dom post := by
  refine enter 3 (by decide) rfl rfl (fun X => ?_)
  refine j_aload_n dX13_wayAt_0 rfl rfl ?_
  refine j_iconst (v := nI 0) dX13_wayAt_1 (by decide) ?_
  refine pI13_51 rfl dX13_wayAt_2 ?_
  obtain ⟨m1, e1⟩ : ∃ m, m = up mi 1000 0 (nI 0) := ⟨_, rfl⟩
  rw [← e1]
  refine j_aload_n dX13_wayAt_5 rfl rfl ?_
  refine j_iload_n dX13_wayAt_6 rfl rfl ?_
  refine cV13_352 (d1 := 1) rfl dX13_wayAt_7 (by decide) (Nat.le_of_ble_eq_true rfl) ?_
  refine m_isHouseN hTn ?_
  refine j_if_eq (tgt := 40) dX13_wayAt_10 (by decide) (fun h10 => ?_) (fun h10 => absurd (by decide) h10)
  refine j_aload_n dX13_wayAt_40 rfl rfl ?_
  refine j_iconst (v := nI 1) dX13_wayAt_41 (by decide) ?_
  refine cV13_57 (d1 := 1) rfl dX13_wayAt_42 (by decide) (Nat.le_of_ble_eq_true rfl) ?_
  refine m_refused ?_
  refine j_iret rfl dX13_wayAt_45 ?_
  rw [e1]; exact hp
theorem mx_carriedN  (hTn : mr 1000 3 = none)  (hp : post (some (.int (-1))) (rf mi (nI 1)) ml mr dom) : CT G 3 0 0 yX13_carried cX13_carried 1 (some .int) [.ref 1000] mi ml mr dom post := by
  refine enter 0 (by decide) rfl rfl (fun X => ?_)
  refine j_aload_n dX13_carried_0 rfl rfl ?_
  refine j_iconst (v := nI 0) dX13_carried_1 (by decide) ?_
  refine pI13_51 rfl dX13_carried_2 ?_
  obtain ⟨m1, e1⟩ : ∃ m, m = up mi 1000 0 (nI 0) := ⟨_, rfl⟩
  rw [← e1]
  refine j_aload_n dX13_carried_5 rfl rfl ?_
  refine gN13_335 rfl dX13_carried_6 hTn ?_
  refine j_ifnonnullN dX13_carried_9 ?_
  refine j_aload_n dX13_carried_12 rfl rfl ?_
  refine j_iconst (v := nI 1) dX13_carried_13 (by decide) ?_
  refine cV13_57 (d1 := 1) rfl dX13_carried_14 (by decide) (Nat.le_of_ble_eq_true rfl) ?_
  refine m_refused ?_
  refine j_iret rfl dX13_carried_17 ?_
  rw [e1]; exact hp
theorem mx_carrierN {g : Int32} (hTn : mr 1000 3 = none)  (hp : post (some (.int (-1))) (rf mi (nI 1)) ml mr dom) : CT G 3 0 0 yX13_carrier cX13_carrier 2 (some .int) [.ref 1000, .int g] mi ml mr dom post := by
  refine enter 0 (by decide) rfl rfl (fun X => ?_)
  refine j_aload_n dX13_carrier_0 rfl rfl ?_
  refine j_iconst (v := nI 0) dX13_carrier_1 (by decide) ?_
  refine pI13_51 rfl dX13_carrier_2 ?_
  obtain ⟨m1, e1⟩ : ∃ m, m = up mi 1000 0 (nI 0) := ⟨_, rfl⟩
  rw [← e1]
  refine j_aload_n dX13_carrier_5 rfl rfl ?_
  refine j_iload_n dX13_carrier_6 rfl rfl ?_
  refine cV13_361 (d1 := 1) rfl dX13_carrier_7 (by decide) (Nat.le_of_ble_eq_true rfl) ?_
  refine m_isGoodN hTn ?_
  refine j_if_ne (tgt := 19) dX13_carrier_10 (by decide) (fun h10 => absurd (by decide) h10) (fun h10 => ?_)
  refine j_aload_n dX13_carrier_13 rfl rfl ?_
  refine j_iconst (v := nI 1) dX13_carrier_14 (by decide) ?_
  refine cV13_57 (d1 := 1) rfl dX13_carrier_15 (by decide) (Nat.le_of_ble_eq_true rfl) ?_
  refine m_refused ?_
  refine j_iret rfl dX13_carrier_18 ?_
  rw [e1]; exact hp
theorem mx_aloneN {p : Int32} (hTn : mr 1000 3 = none)  (hp : post (some (.int (-1))) (rf mi (nI 1)) ml mr dom) : CT G 3 0 0 yX13_alone cX13_alone 4 (some .int) [.ref 1000, .int p] mi ml mr dom post := by
  refine enter 2 (by decide) rfl rfl (fun X => ?_)
  refine j_aload_n dX13_alone_0 rfl rfl ?_
  refine j_iconst (v := nI 0) dX13_alone_1 (by decide) ?_
  refine pI13_51 rfl dX13_alone_2 ?_
  obtain ⟨m1, e1⟩ : ∃ m, m = up mi 1000 0 (nI 0) := ⟨_, rfl⟩
  rw [← e1]
  refine j_aload_n dX13_alone_5 rfl rfl ?_
  refine j_iload_n dX13_alone_6 rfl rfl ?_
  refine cV13_355 (d1 := 1) rfl dX13_alone_7 (by decide) (Nat.le_of_ble_eq_true rfl) ?_
  refine m_isPersonN hTn ?_
  refine j_if_eq (tgt := 26) dX13_alone_10 (by decide) (fun h10 => ?_) (fun h10 => absurd (by decide) h10)
  refine j_aload_n dX13_alone_26 rfl rfl ?_
  refine j_iconst (v := nI 1) dX13_alone_27 (by decide) ?_
  refine cV13_57 (d1 := 1) rfl dX13_alone_28 (by decide) (Nat.le_of_ble_eq_true rfl) ?_
  refine m_refused ?_
  refine j_iret rfl dX13_alone_31 ?_
  rw [e1]; exact hp
theorem mx_stuckN  (hTn : mr 1000 3 = none)  (hp : post (some (.int (-1))) (rf mi (nI 1)) ml mr dom) : CT G 3 0 0 yX13_stuck cX13_stuck 5 (some .int) [.ref 1000] mi ml mr dom post := by
  refine enter 4 (by decide) rfl rfl (fun X => ?_)
  refine j_aload_n dX13_stuck_0 rfl rfl ?_
  refine j_iconst (v := nI 0) dX13_stuck_1 (by decide) ?_
  refine pI13_51 rfl dX13_stuck_2 ?_
  obtain ⟨m1, e1⟩ : ∃ m, m = up mi 1000 0 (nI 0) := ⟨_, rfl⟩
  rw [← e1]
  refine j_aload_n dX13_stuck_5 rfl rfl ?_
  refine gN13_335 rfl dX13_stuck_6 hTn ?_
  refine j_ifnonnullN dX13_stuck_9 ?_
  refine j_aload_n dX13_stuck_12 rfl rfl ?_
  refine j_iconst (v := nI 1) dX13_stuck_13 (by decide) ?_
  refine cV13_57 (d1 := 1) rfl dX13_stuck_14 (by decide) (Nat.le_of_ble_eq_true rfl) ?_
  refine m_refused ?_
  refine j_iret rfl dX13_stuck_17 ?_
  rw [e1]; exact hp
theorem mx_handsN {g : Int32} (hTn : mr 1000 3 = none)  (hp : post (some (.int (-1))) (rf mi (nI 1)) ml mr dom) : CT G 3 0 0 yX13_hands cX13_hands 4 (some .int) [.ref 1000, .int g] mi ml mr dom post := by
  refine enter 2 (by decide) rfl rfl (fun X => ?_)
  refine j_aload_n dX13_hands_0 rfl rfl ?_
  refine j_iconst (v := nI 0) dX13_hands_1 (by decide) ?_
  refine pI13_51 rfl dX13_hands_2 ?_
  obtain ⟨m1, e1⟩ : ∃ m, m = up mi 1000 0 (nI 0) := ⟨_, rfl⟩
  rw [← e1]
  refine j_aload_n dX13_hands_5 rfl rfl ?_
  refine j_iload_n dX13_hands_6 rfl rfl ?_
  refine cV13_361 (d1 := 1) rfl dX13_hands_7 (by decide) (Nat.le_of_ble_eq_true rfl) ?_
  refine m_isGoodN hTn ?_
  refine j_if_ne (tgt := 19) dX13_hands_10 (by decide) (fun h10 => absurd (by decide) h10) (fun h10 => ?_)
  refine j_aload_n dX13_hands_13 rfl rfl ?_
  refine j_iconst (v := nI 1) dX13_hands_14 (by decide) ?_
  refine cV13_57 (d1 := 1) rfl dX13_hands_15 (by decide) (Nat.le_of_ble_eq_true rfl) ?_
  refine m_refused ?_
  refine j_iret rfl dX13_hands_18 ?_
  rw [e1]; exact hp
theorem mx_roundN {h : Int32} (hTn : mr 1000 3 = none)  (hp : post (some (.int (-1))) (rf mi (nI 1)) ml mr dom) : CT G 3 0 0 yX13_round cX13_round 5 (some .int) [.ref 1000, .int h] mi ml mr dom post := by
  refine enter 3 (by decide) rfl rfl (fun X => ?_)
  refine j_aload_n dX13_round_0 rfl rfl ?_
  refine j_iconst (v := nI 0) dX13_round_1 (by decide) ?_
  refine pI13_51 rfl dX13_round_2 ?_
  obtain ⟨m1, e1⟩ : ∃ m, m = up mi 1000 0 (nI 0) := ⟨_, rfl⟩
  rw [← e1]
  refine j_aload_n dX13_round_5 rfl rfl ?_
  refine j_iload_n dX13_round_6 rfl rfl ?_
  refine cV13_352 (d1 := 1) rfl dX13_round_7 (by decide) (Nat.le_of_ble_eq_true rfl) ?_
  refine m_isHouseN hTn ?_
  refine j_if_ne (tgt := 19) dX13_round_10 (by decide) (fun h10 => absurd (by decide) h10) (fun h10 => ?_)
  refine j_aload_n dX13_round_13 rfl rfl ?_
  refine j_iconst (v := nI 1) dX13_round_14 (by decide) ?_
  refine cV13_57 (d1 := 1) rfl dX13_round_15 (by decide) (Nat.le_of_ble_eq_true rfl) ?_
  refine m_refused ?_
  refine j_iret rfl dX13_round_18 ?_
  rw [e1]; exact hp
theorem mx_piecesN  (hTn : mr 1000 3 = none)  (hp : post (some (.int (-1))) (rf mi (nI 1)) ml mr dom) : CT G 3 0 0 yX13_pieces cX13_pieces 3 (some .int) [.ref 1000] mi ml mr dom post := by
  refine enter 2 (by decide) rfl rfl (fun X => ?_)
  refine j_aload_n dX13_pieces_0 rfl rfl ?_
  refine j_iconst (v := nI 0) dX13_pieces_1 (by decide) ?_
  refine pI13_51 rfl dX13_pieces_2 ?_
  obtain ⟨m1, e1⟩ : ∃ m, m = up mi 1000 0 (nI 0) := ⟨_, rfl⟩
  rw [← e1]
  refine j_aload_n dX13_pieces_5 rfl rfl ?_
  refine gN13_335 rfl dX13_pieces_6 hTn ?_
  refine j_ifnonnullN dX13_pieces_9 ?_
  refine j_aload_n dX13_pieces_12 rfl rfl ?_
  refine j_iconst (v := nI 1) dX13_pieces_13 (by decide) ?_
  refine cV13_57 (d1 := 1) rfl dX13_pieces_14 (by decide) (Nat.le_of_ble_eq_true rfl) ?_
  refine m_refused ?_
  refine j_iret rfl dX13_pieces_17 ?_
  rw [e1]; exact hp
theorem mx_couldN {k : Int32} (hTn : mr 1000 3 = none)  (hp : post (some (.int (-1))) (rf mi (nI 1)) ml mr dom) : CT G 3 0 0 yX13_could cX13_could 2 (some .int) [.ref 1000, .int k] mi ml mr dom post := by
  refine enter 0 (by decide) rfl rfl (fun X => ?_)
  refine j_aload_n dX13_could_0 rfl rfl ?_
  refine j_iconst (v := nI 0) dX13_could_1 (by decide) ?_
  refine pI13_51 rfl dX13_could_2 ?_
  obtain ⟨m1, e1⟩ : ∃ m, m = up mi 1000 0 (nI 0) := ⟨_, rfl⟩
  rw [← e1]
  refine j_aload_n dX13_could_5 rfl rfl ?_
  refine j_iload_n dX13_could_6 rfl rfl ?_
  refine cV13_461 (d1 := 1) rfl dX13_could_7 (by decide) (Nat.le_of_ble_eq_true rfl) ?_
  refine m_isPrintedN hTn ?_
  refine j_if_ne (tgt := 19) dX13_could_10 (by decide) (fun h10 => absurd (by decide) h10) (fun h10 => ?_)
  refine j_aload_n dX13_could_13 rfl rfl ?_
  refine j_iconst (v := nI 1) dX13_could_14 (by decide) ?_
  refine cV13_57 (d1 := 1) rfl dX13_could_15 (by decide) (Nat.le_of_ble_eq_true rfl) ?_
  refine m_refused ?_
  refine j_iret rfl dX13_could_18 ?_
  rw [e1]; exact hp
theorem mx_surelyN {k : Int32} (hTn : mr 1000 3 = none)  (hp : post (some (.int (-1))) (rf mi (nI 1)) ml mr dom) : CT G 3 0 0 yX13_surely cX13_surely 3 (some .int) [.ref 1000, .int k] mi ml mr dom post := by
  refine enter 1 (by decide) rfl rfl (fun X => ?_)
  refine j_aload_n dX13_surely_0 rfl rfl ?_
  refine j_iconst (v := nI 0) dX13_surely_1 (by decide) ?_
  refine pI13_51 rfl dX13_surely_2 ?_
  obtain ⟨m1, e1⟩ : ∃ m, m = up mi 1000 0 (nI 0) := ⟨_, rfl⟩
  rw [← e1]
  refine j_aload_n dX13_surely_5 rfl rfl ?_
  refine j_iload_n dX13_surely_6 rfl rfl ?_
  refine cV13_461 (d1 := 1) rfl dX13_surely_7 (by decide) (Nat.le_of_ble_eq_true rfl) ?_
  refine m_isPrintedN hTn ?_
  refine j_if_ne (tgt := 19) dX13_surely_10 (by decide) (fun h10 => absurd (by decide) h10) (fun h10 => ?_)
  refine j_aload_n dX13_surely_13 rfl rfl ?_
  refine j_iconst (v := nI 1) dX13_surely_14 (by decide) ?_
  refine cV13_57 (d1 := 1) rfl dX13_surely_15 (by decide) (Nat.le_of_ble_eq_true rfl) ?_
  refine m_refused ?_
  refine j_iret rfl dX13_surely_18 ?_
  rw [e1]; exact hp
theorem mx_restsN  (hTn : mr 1000 3 = none)  (hp : post (some (.int (-1))) (rf mi (nI 1)) ml mr dom) : CT G 3 0 0 yX13_rests cX13_rests 3 (some .int) [.ref 1000] mi ml mr dom post := by
  refine enter 2 (by decide) rfl rfl (fun X => ?_)
  refine j_aload_n dX13_rests_0 rfl rfl ?_
  refine j_iconst (v := nI 0) dX13_rests_1 (by decide) ?_
  refine pI13_51 rfl dX13_rests_2 ?_
  obtain ⟨m1, e1⟩ : ∃ m, m = up mi 1000 0 (nI 0) := ⟨_, rfl⟩
  rw [← e1]
  refine j_aload_n dX13_rests_5 rfl rfl ?_
  refine gN13_335 rfl dX13_rests_6 hTn ?_
  refine j_ifnonnullN dX13_rests_9 ?_
  refine j_aload_n dX13_rests_12 rfl rfl ?_
  refine j_iconst (v := nI 1) dX13_rests_13 (by decide) ?_
  refine cV13_57 (d1 := 1) rfl dX13_rests_14 (by decide) (Nat.le_of_ble_eq_true rfl) ?_
  refine m_refused ?_
  refine j_iret rfl dX13_rests_17 ?_
  rw [e1]; exact hp
theorem mx_restN  (hTn : mr 1000 3 = none)  (hp : post (some (.int (-1))) (rf mi (nI 1)) ml mr dom) : CT G 3 0 0 yX13_rest cX13_rest 2 (some .int) [.ref 1000] mi ml mr dom post := by
  refine enter 1 (by decide) rfl rfl (fun X => ?_)
  refine j_aload_n dX13_rest_0 rfl rfl ?_
  refine j_iconst (v := nI 0) dX13_rest_1 (by decide) ?_
  refine pI13_51 rfl dX13_rest_2 ?_
  obtain ⟨m1, e1⟩ : ∃ m, m = up mi 1000 0 (nI 0) := ⟨_, rfl⟩
  rw [← e1]
  refine j_aload_n dX13_rest_5 rfl rfl ?_
  refine gN13_335 rfl dX13_rest_6 hTn ?_
  refine j_ifnonnullN dX13_rest_9 ?_
  refine j_aload_n dX13_rest_12 rfl rfl ?_
  refine j_iconst (v := nI 1) dX13_rest_13 (by decide) ?_
  refine cV13_57 (d1 := 1) rfl dX13_rest_14 (by decide) (Nat.le_of_ble_eq_true rfl) ?_
  refine m_refused ?_
  refine j_iret rfl dX13_rest_17 ?_
  rw [e1]; exact hp
theorem mx_dayN {s : Int32} (hTn : mr 1000 3 = none)  (hp : post (some (.int (-1))) (rf mi (nI 1)) ml mr dom) : CT G 3 0 0 yX13_day cX13_day 2 (some .int) [.ref 1000, .int s] mi ml mr dom post := by
  refine enter 0 (by decide) rfl rfl (fun X => ?_)
  refine j_aload_n dX13_day_0 rfl rfl ?_
  refine j_iconst (v := nI 0) dX13_day_1 (by decide) ?_
  refine pI13_51 rfl dX13_day_2 ?_
  obtain ⟨m1, e1⟩ : ∃ m, m = up mi 1000 0 (nI 0) := ⟨_, rfl⟩
  rw [← e1]
  refine j_aload_n dX13_day_5 rfl rfl ?_
  refine gN13_335 rfl dX13_day_6 hTn ?_
  refine j_ifnonnullN dX13_day_9 ?_
  refine j_aload_n dX13_day_12 rfl rfl ?_
  refine j_iconst (v := nI 1) dX13_day_13 (by decide) ?_
  refine cV13_57 (d1 := 1) rfl dX13_day_14 (by decide) (Nat.le_of_ble_eq_true rfl) ?_
  refine m_refused ?_
  refine j_iret rfl dX13_day_17 ?_
  rw [e1]; exact hp
theorem mx_dayOfN {p s n : Int32} (hTn : mr 1000 3 = none)  (hp : post (some (.int (-1))) (rf mi (nI 1)) ml mr dom) : CT G 3 0 0 yX13_dayOf cX13_dayOf 6 (some .int) [.ref 1000, .int p, .int s, .int n] mi ml mr dom post := by
  refine enter 2 (by decide) rfl rfl (fun X => ?_)
  refine j_aload_n dX13_dayOf_0 rfl rfl ?_
  refine j_iconst (v := nI 0) dX13_dayOf_1 (by decide) ?_
  refine pI13_51 rfl dX13_dayOf_2 ?_
  obtain ⟨m1, e1⟩ : ∃ m, m = up mi 1000 0 (nI 0) := ⟨_, rfl⟩
  rw [← e1]
  refine j_aload_n dX13_dayOf_5 rfl rfl ?_
  refine j_iload_n dX13_dayOf_6 rfl rfl ?_
  refine cV13_355 (d1 := 1) rfl dX13_dayOf_7 (by decide) (Nat.le_of_ble_eq_true rfl) ?_
  refine m_isPersonN hTn ?_
  refine j_if_ne (tgt := 19) dX13_dayOf_10 (by decide) (fun h10 => absurd (by decide) h10) (fun h10 => ?_)
  refine j_aload_n dX13_dayOf_13 rfl rfl ?_
  refine j_iconst (v := nI 1) dX13_dayOf_14 (by decide) ?_
  refine cV13_57 (d1 := 1) rfl dX13_dayOf_15 (by decide) (Nat.le_of_ble_eq_true rfl) ?_
  refine m_refused ?_
  refine j_iret rfl dX13_dayOf_18 ?_
  rw [e1]; exact hp
theorem mx_goN {p h : Int32} (hTn : mr 1000 3 = none)  (hp : post (some (.int (-1))) (rf mi (nI 1)) ml mr dom) : CT G 3 0 0 yX13_go cX13_go 4 (some .int) [.ref 1000, .int p, .int h] mi ml mr dom post := by
  refine enter 1 (by decide) rfl rfl (fun X => ?_)
  refine j_aload_n dX13_go_0 rfl rfl ?_
  refine j_iconst (v := nI 0) dX13_go_1 (by decide) ?_
  refine pI13_51 rfl dX13_go_2 ?_
  obtain ⟨m1, e1⟩ : ∃ m, m = up mi 1000 0 (nI 0) := ⟨_, rfl⟩
  rw [← e1]
  refine j_aload_n dX13_go_5 rfl rfl ?_
  refine j_iload_n dX13_go_6 rfl rfl ?_
  refine cV13_355 (d1 := 1) rfl dX13_go_7 (by decide) (Nat.le_of_ble_eq_true rfl) ?_
  refine m_isPersonN hTn ?_
  refine j_if_eq (tgt := 21) dX13_go_10 (by decide) (fun h10 => ?_) (fun h10 => absurd (by decide) h10)
  refine j_aload_n dX13_go_21 rfl rfl ?_
  refine j_iconst (v := nI 1) dX13_go_22 (by decide) ?_
  refine cV13_57 (d1 := 1) rfl dX13_go_23 (by decide) (Nat.le_of_ble_eq_true rfl) ?_
  refine m_refused ?_
  refine j_iret rfl dX13_go_26 ?_
  rw [e1]; exact hp
theorem mx_hoursN {n : Int32} (hTn : mr 1000 3 = none)  (hp : post (some (.int (-1))) (rf mi (nI 1)) ml mr dom) : CT G 3 0 0 yX13_hours cX13_hours 2 (some .int) [.ref 1000, .int n] mi ml mr dom post := by
  refine enter 0 (by decide) rfl rfl (fun X => ?_)
  refine j_aload_n dX13_hours_0 rfl rfl ?_
  refine j_iconst (v := nI 0) dX13_hours_1 (by decide) ?_
  refine pI13_51 rfl dX13_hours_2 ?_
  obtain ⟨m1, e1⟩ : ∃ m, m = up mi 1000 0 (nI 0) := ⟨_, rfl⟩
  rw [← e1]
  refine j_aload_n dX13_hours_5 rfl rfl ?_
  refine gN13_335 rfl dX13_hours_6 hTn ?_
  refine j_ifnonnullN dX13_hours_9 ?_
  refine j_aload_n dX13_hours_12 rfl rfl ?_
  refine j_iconst (v := nI 1) dX13_hours_13 (by decide) ?_
  refine cV13_57 (d1 := 1) rfl dX13_hours_14 (by decide) (Nat.le_of_ble_eq_true rfl) ?_
  refine m_refused ?_
  refine j_iret rfl dX13_hours_17 ?_
  rw [e1]; exact hp
theorem mx_imageN  (hTn : mr 1000 3 = none)  (hp : post (some (.int (-1))) (rf mi (nI 1)) ml mr dom) : CT G 3 0 0 yX13_image cX13_image 2 (some .int) [.ref 1000] mi ml mr dom post := by
  refine enter 1 (by decide) rfl rfl (fun X => ?_)
  refine j_aload_n dX13_image_0 rfl rfl ?_
  refine j_iconst (v := nI 0) dX13_image_1 (by decide) ?_
  refine pI13_51 rfl dX13_image_2 ?_
  obtain ⟨m1, e1⟩ : ∃ m, m = up mi 1000 0 (nI 0) := ⟨_, rfl⟩
  rw [← e1]
  refine j_aload_n dX13_image_5 rfl rfl ?_
  refine gN13_335 rfl dX13_image_6 hTn ?_
  refine j_ifnonnullN dX13_image_9 ?_
  refine j_aload_n dX13_image_12 rfl rfl ?_
  refine j_iconst (v := nI 1) dX13_image_13 (by decide) ?_
  refine cV13_57 (d1 := 1) rfl dX13_image_14 (by decide) (Nat.le_of_ble_eq_true rfl) ?_
  refine m_refused ?_
  refine j_iret rfl dX13_image_17 ?_
  rw [e1]; exact hp
theorem mx_houseB1 {x y : Int32} (hX : XM mr) (hM : MM M) (hY : XT mr M) (hTn : mr 1000 3 = some M) (hg : GB t) (hW : WT t) (hR : RM mi M t) (hb : bad x (t 0 3)) (hp : post (some (.int (-1))) (rf mi (nI 1)) ml mr dom) : CT G 3 0 0 yX13_house cX13_house 5 (some .int) [.ref 1000, .int x, .int y] mi ml mr dom post := by
  have w := hW.1
  have hge := hM.ge
  refine enter 2 (by decide) rfl rfl (fun X => ?_)
  refine j_aload_n dX13_house_0 rfl rfl ?_
  refine j_iconst (v := nI 0) dX13_house_1 (by decide) ?_
  refine pI13_51 rfl dX13_house_2 ?_
  obtain ⟨m1, e1⟩ : ∃ m, m = up mi 1000 0 (nI 0) := ⟨_, rfl⟩
  rw [← e1]
  have hR1 : RM m1 M t := RM_lo hM (fun n hn => by rw [e1, up_off _ _ (by omega)]) hR
  refine j_aload_n dX13_house_5 rfl rfl ?_
  refine j_iload_n dX13_house_6 rfl rfl ?_
  refine cV13_352 (d1 := 1) rfl dX13_house_7 (by decide) (Nat.le_of_ble_eq_true rfl) ?_
  refine m_isHouseB hX hM hY hTn hg hW hR1 hb ?_
  refine j_if_eq (tgt := 22) dX13_house_10 (by decide) (fun h10 => ?_) (fun h10 => absurd (by decide) h10)
  refine j_aload_n dX13_house_22 rfl rfl ?_
  refine j_iconst (v := nI 1) dX13_house_23 (by decide) ?_
  refine cV13_57 (d1 := 1) rfl dX13_house_24 (by decide) (Nat.le_of_ble_eq_true rfl) ?_
  refine m_refused ?_
  refine j_iret rfl dX13_house_27 ?_
  rw [e1]; exact hp
theorem mx_houseB2 {h : Nat} {y : Int32} (hX : XM mr) (hM : MM M) (hY : XT mr M) (hTn : mr 1000 3 = some M) (hg : GB t) (hW : WT t) (hR : RM mi M t) (h1 : h < t 0 3) (hb : bad y 4) (hp : post (some (.int (-1))) (rf mi (nI 1)) ml mr dom) : CT G 3 0 0 yX13_house cX13_house 5 (some .int) [.ref 1000, .int (nI h), .int y] mi ml mr dom post := by
  have w := hW.1
  have hge := hM.ge
  refine enter 2 (by decide) rfl rfl (fun X => ?_)
  refine j_aload_n dX13_house_0 rfl rfl ?_
  refine j_iconst (v := nI 0) dX13_house_1 (by decide) ?_
  refine pI13_51 rfl dX13_house_2 ?_
  obtain ⟨m1, e1⟩ : ∃ m, m = up mi 1000 0 (nI 0) := ⟨_, rfl⟩
  rw [← e1]
  have hR1 : RM m1 M t := RM_lo hM (fun n hn => by rw [e1, up_off _ _ (by omega)]) hR
  refine j_aload_n dX13_house_5 rfl rfl ?_
  refine j_iload_n dX13_house_6 rfl rfl ?_
  refine cV13_352 (d1 := 1) rfl dX13_house_7 (by decide) (Nat.le_of_ble_eq_true rfl) ?_
  refine m_isHouseG hX hM hY hTn hg hW hR1 (by omega) ?_
  refine j_if_eq (tgt := 22) dX13_house_10 (by decide) (fun h10 => absurd h10 (by decide)) (fun h10 => ?_)
  refine j_iload_n dX13_house_13 rfl rfl ?_
  refine j_iconst (v := nI 0) dX13_house_14 (by decide) ?_
  refine j_iconst (v := nI 3) dX13_house_15 (by decide) ?_
  refine cS13_129 (d1 := 1) dX13_house_16 (by decide) (Nat.le_of_ble_eq_true rfl) ?_
  refine m_inB (bad_in (n := 4) (by decide) (by decide) hb) ?_
  refine j_if_ne (tgt := 28) dX13_house_19 (by decide) (fun h19 => absurd (by decide) h19) (fun h19 => ?_)
  refine j_aload_n dX13_house_22 rfl rfl ?_
  refine j_iconst (v := nI 1) dX13_house_23 (by decide) ?_
  refine cV13_57 (d1 := 1) rfl dX13_house_24 (by decide) (Nat.le_of_ble_eq_true rfl) ?_
  refine m_refused ?_
  refine j_iret rfl dX13_house_27 ?_
  rw [e1]; exact hp
theorem mx_house0 {h : Nat} (hX : XM mr) (hM : MM M) (hY : XT mr M) (hTn : mr 1000 3 = some M) (hg : GB t) (hW : WT t) (hR : RM mi M t) (h1 : h < t 0 3) (hp : post (some (.int (nI (t 1 h)))) (fa mi) ml mr dom) : CT G 3 0 0 yX13_house cX13_house 5 (some .int) [.ref 1000, .int (nI h), .int (nI 0)] mi ml mr dom post := by
  have w := hW.1
  have hge := hM.ge
  refine enter 2 (by decide) rfl rfl (fun X => ?_)
  refine j_aload_n dX13_house_0 rfl rfl ?_
  refine j_iconst (v := nI 0) dX13_house_1 (by decide) ?_
  refine pI13_51 rfl dX13_house_2 ?_
  obtain ⟨m1, e1⟩ : ∃ m, m = up mi 1000 0 (nI 0) := ⟨_, rfl⟩
  rw [← e1]
  have hR1 : RM m1 M t := RM_lo hM (fun n hn => by rw [e1, up_off _ _ (by omega)]) hR
  refine j_aload_n dX13_house_5 rfl rfl ?_
  refine j_iload_n dX13_house_6 rfl rfl ?_
  refine cV13_352 (d1 := 1) rfl dX13_house_7 (by decide) (Nat.le_of_ble_eq_true rfl) ?_
  refine m_isHouseG hX hM hY hTn hg hW hR1 (by omega) ?_
  refine j_if_eq (tgt := 22) dX13_house_10 (by decide) (fun h10 => absurd h10 (by decide)) (fun h10 => ?_)
  refine j_iload_n dX13_house_13 rfl rfl ?_
  refine j_iconst (v := nI 0) dX13_house_14 (by decide) ?_
  refine j_iconst (v := nI 3) dX13_house_15 (by decide) ?_
  refine cS13_129 (d1 := 1) dX13_house_16 (by decide) (Nat.le_of_ble_eq_true rfl) ?_
  refine m_inG (by show 0 ≤ 0; omega) (by show 0 ≤ 3; omega) (by decide) ?_
  refine j_if_ne (tgt := 28) dX13_house_19 (by decide) (fun h19 => ?_) (fun h19 => absurd h19 (by decide))
  refine j_iload_n dX13_house_28 rfl rfl ?_
  refine j_iconst (v := nI 2) dX13_house_29 (by decide) ?_
  refine j_icmp_ge (tgt := 62) dX13_house_30 (by decide) (fun h30 => absurd h30 (by decide)) (fun h30 => ?_)
  refine j_aload_n dX13_house_33 rfl rfl ?_
  refine j_iload_n dX13_house_34 rfl rfl ?_
  refine j_if_ne (tgt := 50) dX13_house_35 (by decide) (fun h35 => absurd (by decide) h35) (fun h35 => ?_)
  refine j_aload_n dX13_house_38 rfl rfl ?_
  refine gR13_335 rfl dX13_house_39 hTn ?_
  refine gR13_249 (kM0 hM) dX13_house_42 (xM1 hY) ?_
  refine j_iload_n dX13_house_45 rfl rfl ?_
  refine j_iald (kM1 hM) (inT (lM1 hM) (by show h < 6; omega) (by decide)) dX13_house_46 ?_
  rw [nI_clamp (by omega), rM1 hR1 (by show h < 6; omega)]
  refine j_goto (tgt := 58) dX13_house_47 (by decide) ?_
  refine cV13_61 (d1 := 1) rfl dX13_house_58 (by decide) (Nat.le_of_ble_eq_true rfl) ?_
  refine m_fair ?_
  refine j_iret rfl dX13_house_61 ?_
  rw [e1]; exact hp
theorem mx_house1 {h : Nat} (hX : XM mr) (hM : MM M) (hY : XT mr M) (hTn : mr 1000 3 = some M) (hg : GB t) (hW : WT t) (hR : RM mi M t) (hL : 60 ≤ t 0 2) (h1 : h < t 0 3) (hp : post (some (.int (nI (t 0 2 - t 1 h)))) (fa mi) ml mr dom) : CT G 3 0 0 yX13_house cX13_house 5 (some .int) [.ref 1000, .int (nI h), .int (nI 1)] mi ml mr dom post := by
  have w := hW.1
  have hge := hM.ge
  refine enter 2 (by decide) rfl rfl (fun X => ?_)
  refine j_aload_n dX13_house_0 rfl rfl ?_
  refine j_iconst (v := nI 0) dX13_house_1 (by decide) ?_
  refine pI13_51 rfl dX13_house_2 ?_
  obtain ⟨m1, e1⟩ : ∃ m, m = up mi 1000 0 (nI 0) := ⟨_, rfl⟩
  rw [← e1]
  have hR1 : RM m1 M t := RM_lo hM (fun n hn => by rw [e1, up_off _ _ (by omega)]) hR
  refine j_aload_n dX13_house_5 rfl rfl ?_
  refine j_iload_n dX13_house_6 rfl rfl ?_
  refine cV13_352 (d1 := 1) rfl dX13_house_7 (by decide) (Nat.le_of_ble_eq_true rfl) ?_
  refine m_isHouseG hX hM hY hTn hg hW hR1 (by omega) ?_
  refine j_if_eq (tgt := 22) dX13_house_10 (by decide) (fun h10 => absurd h10 (by decide)) (fun h10 => ?_)
  refine j_iload_n dX13_house_13 rfl rfl ?_
  refine j_iconst (v := nI 0) dX13_house_14 (by decide) ?_
  refine j_iconst (v := nI 3) dX13_house_15 (by decide) ?_
  refine cS13_129 (d1 := 1) dX13_house_16 (by decide) (Nat.le_of_ble_eq_true rfl) ?_
  refine m_inG (by show 0 ≤ 1; omega) (by show 1 ≤ 3; omega) (by decide) ?_
  refine j_if_ne (tgt := 28) dX13_house_19 (by decide) (fun h19 => ?_) (fun h19 => absurd h19 (by decide))
  refine j_iload_n dX13_house_28 rfl rfl ?_
  refine j_iconst (v := nI 2) dX13_house_29 (by decide) ?_
  refine j_icmp_ge (tgt := 62) dX13_house_30 (by decide) (fun h30 => absurd h30 (by decide)) (fun h30 => ?_)
  refine j_aload_n dX13_house_33 rfl rfl ?_
  refine j_iload_n dX13_house_34 rfl rfl ?_
  refine j_if_ne (tgt := 50) dX13_house_35 (by decide) (fun h35 => ?_) (fun h35 => absurd h35 (by decide))
  refine j_aload_n dX13_house_50 rfl rfl ?_
  refine gR13_335 rfl dX13_house_51 hTn ?_
  refine j_iload_n dX13_house_54 rfl rfl ?_
  refine cV13_346 (d1 := 1) (kM0 hM) dX13_house_55 (by decide) (Nat.le_of_ble_eq_true rfl) ?_
  refine m_gap hM hY hg hW hR1 hL (by omega) ?_
  refine cV13_61 (d1 := 1) rfl dX13_house_58 (by decide) (Nat.le_of_ble_eq_true rfl) ?_
  refine m_fair ?_
  refine j_iret rfl dX13_house_61 ?_
  rw [e1]; exact hp
theorem mx_personB1 {x y : Int32} (hX : XM mr) (hM : MM M) (hY : XT mr M) (hTn : mr 1000 3 = some M) (hg : GB t) (hW : WT t) (hR : RM mi M t) (hb : bad x (t 0 5)) (hp : post (some (.int (-1))) (rf mi (nI 1)) ml mr dom) : CT G 3 0 0 yX13_person cX13_person 3 (some .int) [.ref 1000, .int x, .int y] mi ml mr dom post := by
  have w := hW.1
  have hge := hM.ge
  refine enter 0 (by decide) rfl rfl (fun X => ?_)
  refine j_aload_n dX13_person_0 rfl rfl ?_
  refine j_iconst (v := nI 0) dX13_person_1 (by decide) ?_
  refine pI13_51 rfl dX13_person_2 ?_
  obtain ⟨m1, e1⟩ : ∃ m, m = up mi 1000 0 (nI 0) := ⟨_, rfl⟩
  rw [← e1]
  have hR1 : RM m1 M t := RM_lo hM (fun n hn => by rw [e1, up_off _ _ (by omega)]) hR
  refine j_aload_n dX13_person_5 rfl rfl ?_
  refine j_iload_n dX13_person_6 rfl rfl ?_
  refine cV13_355 (d1 := 1) rfl dX13_person_7 (by decide) (Nat.le_of_ble_eq_true rfl) ?_
  refine m_isPersonB hX hM hY hTn hg hW hR1 hb ?_
  refine j_if_eq (tgt := 22) dX13_person_10 (by decide) (fun h10 => ?_) (fun h10 => absurd (by decide) h10)
  refine j_aload_n dX13_person_22 rfl rfl ?_
  refine j_iconst (v := nI 1) dX13_person_23 (by decide) ?_
  refine cV13_57 (d1 := 1) rfl dX13_person_24 (by decide) (Nat.le_of_ble_eq_true rfl) ?_
  refine m_refused ?_
  refine j_iret rfl dX13_person_27 ?_
  rw [e1]; exact hp
theorem mx_personB2 {p : Nat} {y : Int32} (hX : XM mr) (hM : MM M) (hY : XT mr M) (hTn : mr 1000 3 = some M) (hg : GB t) (hW : WT t) (hR : RM mi M t) (h1 : p < t 0 5) (hb : bad y 5) (hp : post (some (.int (-1))) (rf mi (nI 1)) ml mr dom) : CT G 3 0 0 yX13_person cX13_person 3 (some .int) [.ref 1000, .int (nI p), .int y] mi ml mr dom post := by
  have w := hW.1
  have hge := hM.ge
  refine enter 0 (by decide) rfl rfl (fun X => ?_)
  refine j_aload_n dX13_person_0 rfl rfl ?_
  refine j_iconst (v := nI 0) dX13_person_1 (by decide) ?_
  refine pI13_51 rfl dX13_person_2 ?_
  obtain ⟨m1, e1⟩ : ∃ m, m = up mi 1000 0 (nI 0) := ⟨_, rfl⟩
  rw [← e1]
  have hR1 : RM m1 M t := RM_lo hM (fun n hn => by rw [e1, up_off _ _ (by omega)]) hR
  refine j_aload_n dX13_person_5 rfl rfl ?_
  refine j_iload_n dX13_person_6 rfl rfl ?_
  refine cV13_355 (d1 := 1) rfl dX13_person_7 (by decide) (Nat.le_of_ble_eq_true rfl) ?_
  refine m_isPersonG hX hM hY hTn hg hW hR1 (by omega) ?_
  refine j_if_eq (tgt := 22) dX13_person_10 (by decide) (fun h10 => absurd h10 (by decide)) (fun h10 => ?_)
  refine j_iload_n dX13_person_13 rfl rfl ?_
  refine j_iconst (v := nI 0) dX13_person_14 (by decide) ?_
  refine j_iconst (v := nI 4) dX13_person_15 (by decide) ?_
  refine cS13_129 (d1 := 1) dX13_person_16 (by decide) (Nat.le_of_ble_eq_true rfl) ?_
  refine m_inB (bad_in (n := 5) (by decide) (by decide) hb) ?_
  refine j_if_ne (tgt := 28) dX13_person_19 (by decide) (fun h19 => absurd (by decide) h19) (fun h19 => ?_)
  refine j_aload_n dX13_person_22 rfl rfl ?_
  refine j_iconst (v := nI 1) dX13_person_23 (by decide) ?_
  refine cV13_57 (d1 := 1) rfl dX13_person_24 (by decide) (Nat.le_of_ble_eq_true rfl) ?_
  refine m_refused ?_
  refine j_iret rfl dX13_person_27 ?_
  rw [e1]; exact hp
theorem mx_person0 {p : Nat} (hX : XM mr) (hM : MM M) (hY : XT mr M) (hTn : mr 1000 3 = some M) (hg : GB t) (hW : WT t) (hR : RM mi M t) (h1 : p < t 0 5) (hp : post (some (.int (nI (t 4 p)))) (fa mi) ml mr dom) : CT G 3 0 0 yX13_person cX13_person 3 (some .int) [.ref 1000, .int (nI p), .int (nI 0)] mi ml mr dom post := by
  have w := hW.1
  have hge := hM.ge
  refine enter 0 (by decide) rfl rfl (fun X => ?_)
  refine j_aload_n dX13_person_0 rfl rfl ?_
  refine j_iconst (v := nI 0) dX13_person_1 (by decide) ?_
  refine pI13_51 rfl dX13_person_2 ?_
  obtain ⟨m1, e1⟩ : ∃ m, m = up mi 1000 0 (nI 0) := ⟨_, rfl⟩
  rw [← e1]
  have hR1 : RM m1 M t := RM_lo hM (fun n hn => by rw [e1, up_off _ _ (by omega)]) hR
  refine j_aload_n dX13_person_5 rfl rfl ?_
  refine j_iload_n dX13_person_6 rfl rfl ?_
  refine cV13_355 (d1 := 1) rfl dX13_person_7 (by decide) (Nat.le_of_ble_eq_true rfl) ?_
  refine m_isPersonG hX hM hY hTn hg hW hR1 (by omega) ?_
  refine j_if_eq (tgt := 22) dX13_person_10 (by decide) (fun h10 => absurd h10 (by decide)) (fun h10 => ?_)
  refine j_iload_n dX13_person_13 rfl rfl ?_
  refine j_iconst (v := nI 0) dX13_person_14 (by decide) ?_
  refine j_iconst (v := nI 4) dX13_person_15 (by decide) ?_
  refine cS13_129 (d1 := 1) dX13_person_16 (by decide) (Nat.le_of_ble_eq_true rfl) ?_
  refine m_inG (by show 0 ≤ 0; omega) (by show 0 ≤ 4; omega) (by decide) ?_
  refine j_if_ne (tgt := 28) dX13_person_19 (by decide) (fun h19 => ?_) (fun h19 => absurd h19 (by decide))
  refine j_iload_n dX13_person_28 rfl rfl ?_
  refine j_tableIn (tgt := 60) dX13_person_29 (by decide) (by decide) (by rfl) (by decide) ?_
  refine j_aload_n dX13_person_60 rfl rfl ?_
  refine j_aload_n dX13_person_61 rfl rfl ?_
  refine gR13_335 rfl dX13_person_62 hTn ?_
  refine gR13_278 (kM0 hM) dX13_person_65 (xM4 hY) ?_
  refine j_iload_n dX13_person_68 rfl rfl ?_
  refine j_iald (kM4 hM) (inT (lM4 hM) (by show p < 6; omega) (by decide)) dX13_person_69 ?_
  rw [nI_clamp (by omega), rM4 hR1 (by show p < 6; omega)]
  refine cV13_61 (d1 := 1) rfl dX13_person_70 (by decide) (Nat.le_of_ble_eq_true rfl) ?_
  refine m_fair ?_
  refine j_iret rfl dX13_person_73 ?_
  rw [e1]; exact hp
theorem mx_person1 {p : Nat} (hX : XM mr) (hM : MM M) (hY : XT mr M) (hTn : mr 1000 3 = some M) (hg : GB t) (hW : WT t) (hR : RM mi M t) (h1 : p < t 0 5) (hp : post (some (.int (nI (t 5 p)))) (fa mi) ml mr dom) : CT G 3 0 0 yX13_person cX13_person 3 (some .int) [.ref 1000, .int (nI p), .int (nI 1)] mi ml mr dom post := by
  have w := hW.1
  have hge := hM.ge
  refine enter 0 (by decide) rfl rfl (fun X => ?_)
  refine j_aload_n dX13_person_0 rfl rfl ?_
  refine j_iconst (v := nI 0) dX13_person_1 (by decide) ?_
  refine pI13_51 rfl dX13_person_2 ?_
  obtain ⟨m1, e1⟩ : ∃ m, m = up mi 1000 0 (nI 0) := ⟨_, rfl⟩
  rw [← e1]
  have hR1 : RM m1 M t := RM_lo hM (fun n hn => by rw [e1, up_off _ _ (by omega)]) hR
  refine j_aload_n dX13_person_5 rfl rfl ?_
  refine j_iload_n dX13_person_6 rfl rfl ?_
  refine cV13_355 (d1 := 1) rfl dX13_person_7 (by decide) (Nat.le_of_ble_eq_true rfl) ?_
  refine m_isPersonG hX hM hY hTn hg hW hR1 (by omega) ?_
  refine j_if_eq (tgt := 22) dX13_person_10 (by decide) (fun h10 => absurd h10 (by decide)) (fun h10 => ?_)
  refine j_iload_n dX13_person_13 rfl rfl ?_
  refine j_iconst (v := nI 0) dX13_person_14 (by decide) ?_
  refine j_iconst (v := nI 4) dX13_person_15 (by decide) ?_
  refine cS13_129 (d1 := 1) dX13_person_16 (by decide) (Nat.le_of_ble_eq_true rfl) ?_
  refine m_inG (by show 0 ≤ 1; omega) (by show 1 ≤ 4; omega) (by decide) ?_
  refine j_if_ne (tgt := 28) dX13_person_19 (by decide) (fun h19 => ?_) (fun h19 => absurd h19 (by decide))
  refine j_iload_n dX13_person_28 rfl rfl ?_
  refine j_tableIn (tgt := 74) dX13_person_29 (by decide) (by decide) (by rfl) (by decide) ?_
  refine j_aload_n dX13_person_74 rfl rfl ?_
  refine j_aload_n dX13_person_75 rfl rfl ?_
  refine gR13_335 rfl dX13_person_76 hTn ?_
  refine gR13_281 (kM0 hM) dX13_person_79 (xM5 hY) ?_
  refine j_iload_n dX13_person_82 rfl rfl ?_
  refine j_iald (kM5 hM) (inT (lM5 hM) (by show p < 6; omega) (by decide)) dX13_person_83 ?_
  rw [nI_clamp (by omega), rM5 hR1 (by show p < 6; omega)]
  refine cV13_61 (d1 := 1) rfl dX13_person_84 (by decide) (Nat.le_of_ble_eq_true rfl) ?_
  refine m_fair ?_
  refine j_iret rfl dX13_person_87 ?_
  rw [e1]; exact hp
theorem mx_person2 {p : Nat} (hX : XM mr) (hM : MM M) (hY : XT mr M) (hTn : mr 1000 3 = some M) (hg : GB t) (hW : WT t) (hR : RM mi M t) (h1 : p < t 0 5) (hp : post (some (.int (nI (t 6 p)))) (fa mi) ml mr dom) : CT G 3 0 0 yX13_person cX13_person 3 (some .int) [.ref 1000, .int (nI p), .int (nI 2)] mi ml mr dom post := by
  have w := hW.1
  have hge := hM.ge
  refine enter 0 (by decide) rfl rfl (fun X => ?_)
  refine j_aload_n dX13_person_0 rfl rfl ?_
  refine j_iconst (v := nI 0) dX13_person_1 (by decide) ?_
  refine pI13_51 rfl dX13_person_2 ?_
  obtain ⟨m1, e1⟩ : ∃ m, m = up mi 1000 0 (nI 0) := ⟨_, rfl⟩
  rw [← e1]
  have hR1 : RM m1 M t := RM_lo hM (fun n hn => by rw [e1, up_off _ _ (by omega)]) hR
  refine j_aload_n dX13_person_5 rfl rfl ?_
  refine j_iload_n dX13_person_6 rfl rfl ?_
  refine cV13_355 (d1 := 1) rfl dX13_person_7 (by decide) (Nat.le_of_ble_eq_true rfl) ?_
  refine m_isPersonG hX hM hY hTn hg hW hR1 (by omega) ?_
  refine j_if_eq (tgt := 22) dX13_person_10 (by decide) (fun h10 => absurd h10 (by decide)) (fun h10 => ?_)
  refine j_iload_n dX13_person_13 rfl rfl ?_
  refine j_iconst (v := nI 0) dX13_person_14 (by decide) ?_
  refine j_iconst (v := nI 4) dX13_person_15 (by decide) ?_
  refine cS13_129 (d1 := 1) dX13_person_16 (by decide) (Nat.le_of_ble_eq_true rfl) ?_
  refine m_inG (by show 0 ≤ 2; omega) (by show 2 ≤ 4; omega) (by decide) ?_
  refine j_if_ne (tgt := 28) dX13_person_19 (by decide) (fun h19 => ?_) (fun h19 => absurd h19 (by decide))
  refine j_iload_n dX13_person_28 rfl rfl ?_
  refine j_tableIn (tgt := 88) dX13_person_29 (by decide) (by decide) (by rfl) (by decide) ?_
  refine j_aload_n dX13_person_88 rfl rfl ?_
  refine j_aload_n dX13_person_89 rfl rfl ?_
  refine gR13_335 rfl dX13_person_90 hTn ?_
  refine gR13_283 (kM0 hM) dX13_person_93 (xM6 hY) ?_
  refine j_iload_n dX13_person_96 rfl rfl ?_
  refine j_iald (kM6 hM) (inT (lM6 hM) (by show p < 6; omega) (by decide)) dX13_person_97 ?_
  rw [nI_clamp (by omega), rM6 hR1 (by show p < 6; omega)]
  refine cV13_61 (d1 := 1) rfl dX13_person_98 (by decide) (Nat.le_of_ble_eq_true rfl) ?_
  refine m_fair ?_
  refine j_iret rfl dX13_person_101 ?_
  rw [e1]; exact hp
theorem mx_person3 {p : Nat} (hX : XM mr) (hM : MM M) (hY : XT mr M) (hTn : mr 1000 3 = some M) (hg : GB t) (hW : WT t) (hR : RM mi M t) (hV : VM mi t v) (h1 : p < t 0 5) (hp : post (some (.int (nI (v p)))) (fa mi) ml mr dom) : CT G 3 0 0 yX13_person cX13_person 3 (some .int) [.ref 1000, .int (nI p), .int (nI 3)] mi ml mr dom post := by
  have w := hW.1
  have hge := hM.ge
  refine enter 0 (by decide) rfl rfl (fun X => ?_)
  refine j_aload_n dX13_person_0 rfl rfl ?_
  refine j_iconst (v := nI 0) dX13_person_1 (by decide) ?_
  refine pI13_51 rfl dX13_person_2 ?_
  obtain ⟨m1, e1⟩ : ∃ m, m = up mi 1000 0 (nI 0) := ⟨_, rfl⟩
  rw [← e1]
  have hR1 : RM m1 M t := RM_lo hM (fun n hn => by rw [e1, up_off _ _ (by omega)]) hR
  have hV1 : VM m1 t v := VM_off (by rw [e1, up_off _ _ (by decide)]) hV
  refine j_aload_n dX13_person_5 rfl rfl ?_
  refine j_iload_n dX13_person_6 rfl rfl ?_
  refine cV13_355 (d1 := 1) rfl dX13_person_7 (by decide) (Nat.le_of_ble_eq_true rfl) ?_
  refine m_isPersonG hX hM hY hTn hg hW hR1 (by omega) ?_
  refine j_if_eq (tgt := 22) dX13_person_10 (by decide) (fun h10 => absurd h10 (by decide)) (fun h10 => ?_)
  refine j_iload_n dX13_person_13 rfl rfl ?_
  refine j_iconst (v := nI 0) dX13_person_14 (by decide) ?_
  refine j_iconst (v := nI 4) dX13_person_15 (by decide) ?_
  refine cS13_129 (d1 := 1) dX13_person_16 (by decide) (Nat.le_of_ble_eq_true rfl) ?_
  refine m_inG (by show 0 ≤ 3; omega) (by show 3 ≤ 4; omega) (by decide) ?_
  refine j_if_ne (tgt := 28) dX13_person_19 (by decide) (fun h19 => ?_) (fun h19 => absurd h19 (by decide))
  refine j_iload_n dX13_person_28 rfl rfl ?_
  refine j_tableIn (tgt := 102) dX13_person_29 (by decide) (by decide) (by rfl) (by decide) ?_
  refine j_aload_n dX13_person_102 rfl rfl ?_
  refine j_aload_n dX13_person_103 rfl rfl ?_
  refine gR13_17 rfl dX13_person_104 (x1002 hX) ?_
  refine j_iconst (v := nI 0) dX13_person_107 (by decide) ?_
  refine j_iload_n dX13_person_108 rfl rfl ?_
  refine j_iadd dX13_person_109 ?_
  rw [show nI 0 + nI p = nI p by rw [nI_add, Nat.zero_add]]
  refine j_iald rfl (inT (show ln 1002 = 13 from rfl) (by show p < 13; omega) (by decide)) dX13_person_110 ?_
  rw [nI_clamp (by omega), (hV1.1 p (by show p < t 0 5; omega)).1]
  refine cV13_61 (d1 := 1) rfl dX13_person_111 (by decide) (Nat.le_of_ble_eq_true rfl) ?_
  refine m_fair ?_
  refine j_iret rfl dX13_person_114 ?_
  rw [e1]; exact hp
theorem mx_person4 {p : Nat} (hX : XM mr) (hM : MM M) (hY : XT mr M) (hTn : mr 1000 3 = some M) (hg : GB t) (hW : WT t) (hR : RM mi M t) (h1 : p < t 0 5) (hp : post (some (.int (nI (str t p)))) (fa mi) ml mr dom) : CT G 3 0 0 yX13_person cX13_person 3 (some .int) [.ref 1000, .int (nI p), .int (nI 4)] mi ml mr dom post := by
  have w := hW.1
  have hge := hM.ge
  refine enter 0 (by decide) rfl rfl (fun X => ?_)
  refine j_aload_n dX13_person_0 rfl rfl ?_
  refine j_iconst (v := nI 0) dX13_person_1 (by decide) ?_
  refine pI13_51 rfl dX13_person_2 ?_
  obtain ⟨m1, e1⟩ : ∃ m, m = up mi 1000 0 (nI 0) := ⟨_, rfl⟩
  rw [← e1]
  have hR1 : RM m1 M t := RM_lo hM (fun n hn => by rw [e1, up_off _ _ (by omega)]) hR
  refine j_aload_n dX13_person_5 rfl rfl ?_
  refine j_iload_n dX13_person_6 rfl rfl ?_
  refine cV13_355 (d1 := 1) rfl dX13_person_7 (by decide) (Nat.le_of_ble_eq_true rfl) ?_
  refine m_isPersonG hX hM hY hTn hg hW hR1 (by omega) ?_
  refine j_if_eq (tgt := 22) dX13_person_10 (by decide) (fun h10 => absurd h10 (by decide)) (fun h10 => ?_)
  refine j_iload_n dX13_person_13 rfl rfl ?_
  refine j_iconst (v := nI 0) dX13_person_14 (by decide) ?_
  refine j_iconst (v := nI 4) dX13_person_15 (by decide) ?_
  refine cS13_129 (d1 := 1) dX13_person_16 (by decide) (Nat.le_of_ble_eq_true rfl) ?_
  refine m_inG (by show 0 ≤ 4; omega) (by show 4 ≤ 4; omega) (by decide) ?_
  refine j_if_ne (tgt := 28) dX13_person_19 (by decide) (fun h19 => ?_) (fun h19 => absurd h19 (by decide))
  refine j_iload_n dX13_person_28 rfl rfl ?_
  refine j_tableOut (tgt := 115) dX13_person_29 (by decide) (by decide) ?_
  refine j_aload_n dX13_person_115 rfl rfl ?_
  refine j_aload_n dX13_person_116 rfl rfl ?_
  refine gR13_335 rfl dX13_person_117 hTn ?_
  refine j_iload_n dX13_person_120 rfl rfl ?_
  refine cV13_358 (d1 := 1) (kM0 hM) dX13_person_121 (by decide) (Nat.le_of_ble_eq_true rfl) ?_
  refine m_carries hM hY hg hW hR1 (by omega) ?_
  refine cV13_61 (d1 := 1) rfl dX13_person_124 (by decide) (Nat.le_of_ble_eq_true rfl) ?_
  refine m_fair ?_
  refine j_iret rfl dX13_person_127 ?_
  rw [e1]; exact hp
theorem mx_markB1 {x y : Int32} (hX : XM mr) (hM : MM M) (hY : XT mr M) (hTn : mr 1000 3 = some M) (hg : GB t) (hW : WT t) (hR : RM mi M t) (hb : bad x (t 0 5)) (hp : post (some (.int (-1))) (rf mi (nI 1)) ml mr dom) : CT G 3 0 0 yX13_mark cX13_mark 3 (some .int) [.ref 1000, .int x, .int y] mi ml mr dom post := by
  have w := hW.1
  have hge := hM.ge
  refine enter 0 (by decide) rfl rfl (fun X => ?_)
  refine j_aload_n dX13_mark_0 rfl rfl ?_
  refine j_iconst (v := nI 0) dX13_mark_1 (by decide) ?_
  refine pI13_51 rfl dX13_mark_2 ?_
  obtain ⟨m1, e1⟩ : ∃ m, m = up mi 1000 0 (nI 0) := ⟨_, rfl⟩
  rw [← e1]
  have hR1 : RM m1 M t := RM_lo hM (fun n hn => by rw [e1, up_off _ _ (by omega)]) hR
  refine j_aload_n dX13_mark_5 rfl rfl ?_
  refine j_iload_n dX13_mark_6 rfl rfl ?_
  refine cV13_355 (d1 := 1) rfl dX13_mark_7 (by decide) (Nat.le_of_ble_eq_true rfl) ?_
  refine m_isPersonB hX hM hY hTn hg hW hR1 hb ?_
  refine j_if_eq (tgt := 42) dX13_mark_10 (by decide) (fun h10 => ?_) (fun h10 => absurd (by decide) h10)
  refine j_aload_n dX13_mark_42 rfl rfl ?_
  refine j_iconst (v := nI 1) dX13_mark_43 (by decide) ?_
  refine cV13_57 (d1 := 1) rfl dX13_mark_44 (by decide) (Nat.le_of_ble_eq_true rfl) ?_
  refine m_refused ?_
  refine j_iret rfl dX13_mark_47 ?_
  rw [e1]; exact hp
theorem mx_markB2 {p : Nat} {y : Int32} (hX : XM mr) (hM : MM M) (hY : XT mr M) (hTn : mr 1000 3 = some M) (hg : GB t) (hW : WT t) (hR : RM mi M t) (h1 : p < t 0 5) (hb : bad y 5) (hp : post (some (.int (-1))) (rf mi (nI 1)) ml mr dom) : CT G 3 0 0 yX13_mark cX13_mark 3 (some .int) [.ref 1000, .int (nI p), .int y] mi ml mr dom post := by
  have w := hW.1
  have hge := hM.ge
  refine enter 0 (by decide) rfl rfl (fun X => ?_)
  refine j_aload_n dX13_mark_0 rfl rfl ?_
  refine j_iconst (v := nI 0) dX13_mark_1 (by decide) ?_
  refine pI13_51 rfl dX13_mark_2 ?_
  obtain ⟨m1, e1⟩ : ∃ m, m = up mi 1000 0 (nI 0) := ⟨_, rfl⟩
  rw [← e1]
  have hR1 : RM m1 M t := RM_lo hM (fun n hn => by rw [e1, up_off _ _ (by omega)]) hR
  refine j_aload_n dX13_mark_5 rfl rfl ?_
  refine j_iload_n dX13_mark_6 rfl rfl ?_
  refine cV13_355 (d1 := 1) rfl dX13_mark_7 (by decide) (Nat.le_of_ble_eq_true rfl) ?_
  refine m_isPersonG hX hM hY hTn hg hW hR1 (by omega) ?_
  refine j_if_eq (tgt := 42) dX13_mark_10 (by decide) (fun h10 => absurd h10 (by decide)) (fun h10 => ?_)
  refine j_iload_n dX13_mark_13 rfl rfl ?_
  refine j_iconst (v := nI 0) dX13_mark_14 (by decide) ?_
  refine j_iconst (v := nI 4) dX13_mark_15 (by decide) ?_
  refine cS13_129 (d1 := 1) dX13_mark_16 (by decide) (Nat.le_of_ble_eq_true rfl) ?_
  refine m_inB (bad_in (n := 5) (by decide) (by decide) hb) ?_
  refine j_if_eq (tgt := 42) dX13_mark_19 (by decide) (fun h19 => ?_) (fun h19 => absurd (by decide) h19)
  refine j_aload_n dX13_mark_42 rfl rfl ?_
  refine j_iconst (v := nI 1) dX13_mark_43 (by decide) ?_
  refine cV13_57 (d1 := 1) rfl dX13_mark_44 (by decide) (Nat.le_of_ble_eq_true rfl) ?_
  refine m_refused ?_
  refine j_iret rfl dX13_mark_47 ?_
  rw [e1]; exact hp
theorem mx_mark {p i : Nat} (hX : XM mr) (hM : MM M) (hY : XT mr M) (hTn : mr 1000 3 = some M) (hg : GB t) (hW : WT t) (hR : RM mi M t) (h1 : p < t 0 5) (h2 : i < 5) (hp : post (some (.int (nI (t 7 (5 * p + i))))) (fa mi) ml mr dom) : CT G 3 0 0 yX13_mark cX13_mark 3 (some .int) [.ref 1000, .int (nI p), .int (nI i)] mi ml mr dom post := by
  have w := hW.1
  have hge := hM.ge
  refine enter 0 (by decide) rfl rfl (fun X => ?_)
  refine j_aload_n dX13_mark_0 rfl rfl ?_
  refine j_iconst (v := nI 0) dX13_mark_1 (by decide) ?_
  refine pI13_51 rfl dX13_mark_2 ?_
  obtain ⟨m1, e1⟩ : ∃ m, m = up mi 1000 0 (nI 0) := ⟨_, rfl⟩
  rw [← e1]
  have hR1 : RM m1 M t := RM_lo hM (fun n hn => by rw [e1, up_off _ _ (by omega)]) hR
  refine j_aload_n dX13_mark_5 rfl rfl ?_
  refine j_iload_n dX13_mark_6 rfl rfl ?_
  refine cV13_355 (d1 := 1) rfl dX13_mark_7 (by decide) (Nat.le_of_ble_eq_true rfl) ?_
  refine m_isPersonG hX hM hY hTn hg hW hR1 (by omega) ?_
  refine j_if_eq (tgt := 42) dX13_mark_10 (by decide) (fun h10 => absurd h10 (by decide)) (fun h10 => ?_)
  refine j_iload_n dX13_mark_13 rfl rfl ?_
  refine j_iconst (v := nI 0) dX13_mark_14 (by decide) ?_
  refine j_iconst (v := nI 4) dX13_mark_15 (by decide) ?_
  refine cS13_129 (d1 := 1) dX13_mark_16 (by decide) (Nat.le_of_ble_eq_true rfl) ?_
  refine m_inG (by show 0 ≤ i; omega) (by show i ≤ 4; omega) (by decide) ?_
  refine j_if_eq (tgt := 42) dX13_mark_19 (by decide) (fun h19 => absurd h19 (by decide)) (fun h19 => ?_)
  refine j_aload_n dX13_mark_22 rfl rfl ?_
  refine j_aload_n dX13_mark_23 rfl rfl ?_
  refine gR13_335 rfl dX13_mark_24 hTn ?_
  refine gR13_285 (kM0 hM) dX13_mark_27 (xM7 hY) ?_
  refine j_iconst (v := nI 5) dX13_mark_30 (by decide) ?_
  refine j_iload_n dX13_mark_31 rfl rfl ?_
  refine j_imul dX13_mark_32 ?_
  rw [pk_mul]
  refine j_iload_n dX13_mark_33 rfl rfl ?_
  refine j_iadd dX13_mark_34 ?_
  rw [nI_add]
  refine j_iald (kM7 hM) (inT (lM7 hM) (by show (5 * p) + i < 30; omega) (by decide)) dX13_mark_35 ?_
  rw [nI_clamp (by omega), rM7 hR1 (by show (5 * p) + i < 30; omega)]
  refine cV13_61 (d1 := 1) rfl dX13_mark_36 (by decide) (Nat.le_of_ble_eq_true rfl) ?_
  refine m_fair ?_
  refine j_goto (tgt := 47) dX13_mark_39 (by decide) ?_
  refine j_iret rfl dX13_mark_47 ?_
  rw [e1]; exact hp
theorem m_piecesOf {g : Nat} (hX : XM mr) (hM : MM M) (hY : XT mr M) (hTn : mr 1000 3 = some M) (hg : GB t) (hW : WT t) (hR : RM mi M t) (hL : 60 ≤ t 0 2) (h1 : g < t 0 6) (hp : post (some (.int (nI (pcO t g)))) mi ml mr dom) : CT G 2 0 0 yX13_piecesOf cX13_piecesOf 3 (some .int) [.ref 1000, .int (nI g)] mi ml mr dom post := by
  have w := hW.1
  have q1 := hW.2.2.2.2.1 g h1
  have q2 := hW.2.1 _ q1.2.2.1
  have q3 := hW.2.1 _ q1.2.2.2
  refine enter 1 (by decide) rfl rfl (fun X => ?_)
  refine j_aload_n dX13_piecesOf_0 rfl rfl ?_
  refine gR13_335 rfl dX13_piecesOf_1 hTn ?_
  refine j_aload_n dX13_piecesOf_4 rfl rfl ?_
  refine gR13_335 rfl dX13_piecesOf_5 hTn ?_
  refine gR13_298 (kM0 hM) dX13_piecesOf_8 (xM9 hY) ?_
  refine j_iload_n dX13_piecesOf_11 rfl rfl ?_
  refine j_iald (kM9 hM) (inT (lM9 hM) (by show g < 5; omega) (by decide)) dX13_piecesOf_12 ?_
  rw [nI_clamp (by omega), rM9 hR (by show g < 5; omega)]
  refine cV13_346 (d1 := 1) (kM0 hM) dX13_piecesOf_13 (by decide) (Nat.le_of_ble_eq_true rfl) ?_
  refine m_gap hM hY hg hW hR hL (by have := hg 9 g; omega) ?_
  refine j_aload_n dX13_piecesOf_16 rfl rfl ?_
  refine gR13_335 rfl dX13_piecesOf_17 hTn ?_
  refine j_aload_n dX13_piecesOf_20 rfl rfl ?_
  refine gR13_335 rfl dX13_piecesOf_21 hTn ?_
  refine gR13_300 (kM0 hM) dX13_piecesOf_24 (xM10 hY) ?_
  refine j_iload_n dX13_piecesOf_27 rfl rfl ?_
  refine j_iald (kM10 hM) (inT (lM10 hM) (by show g < 5; omega) (by decide)) dX13_piecesOf_28 ?_
  rw [nI_clamp (by omega), rM10 hR (by show g < 5; omega)]
  refine cV13_346 (d1 := 1) (kM0 hM) dX13_piecesOf_29 (by decide) (Nat.le_of_ble_eq_true rfl) ?_
  refine m_gap hM hY hg hW hR hL (by have := hg 10 g; omega) ?_
  refine cS13_349 (d1 := 1) dX13_piecesOf_32 (by decide) (Nat.le_of_ble_eq_true rfl) ?_
  refine m_less (by have := hg 0 2; omega) (by have := hg 0 2; omega) ?_
  refine j_istore_n (lv2 := [_, _, _]) dX13_piecesOf_35 rfl (by decide) rfl rfl ?_
  refine j_aload_n dX13_piecesOf_36 rfl rfl ?_
  refine gR13_335 rfl dX13_piecesOf_37 hTn ?_
  refine gR13_296 (kM0 hM) dX13_piecesOf_40 (xM8 hY) ?_
  refine j_iload_n dX13_piecesOf_43 rfl rfl ?_
  refine j_iald (kM8 hM) (inT (lM8 hM) (by show g < 5; omega) (by decide)) dX13_piecesOf_44 ?_
  rw [nI_clamp (by omega), rM8 hR (by show g < 5; omega)]
  refine j_iload_n dX13_piecesOf_45 rfl rfl ?_
  refine j_iadd dX13_piecesOf_46 ?_
  rw [nI_add]
  refine j_iconst (v := nI 1) dX13_piecesOf_47 (by decide) ?_
  refine j_isub dX13_piecesOf_48 ?_
  rw [pk_sub (by have := hg 0 2; have := hg 8 g; show 1 ≤ (t 8 g) + (min (t 0 2 - t 1 (t 9 g)) (t 0 2 - t 1 (t 10 g))); omega)]
  refine j_iload_n dX13_piecesOf_49 rfl rfl ?_
  refine j_idiv dX13_piecesOf_50 (nI_ne0 (by have := hg 0 2; show 0 < min (t 0 2 - t 1 (t 9 g)) (t 0 2 - t 1 (t 10 g)); omega) (by have := hg 0 2; omega)) ?_
  rw [pk_div (by have := hg 0 2; have := hg 8 g; omega) (by have := hg 0 2; show 0 < min (t 0 2 - t 1 (t 9 g)) (t 0 2 - t 1 (t 10 g)); omega) (by have := hg 0 2; omega)]
  refine j_iret rfl dX13_piecesOf_51 ?_
  exact hp
theorem pcO_le {t : TW} (hg : GB t) (g : Nat) : pcO t g ≤ 300000 := by
  have h1 := hg 8 g
  have h2 := hg 0 2
  have h3 : gpm t g ≤ t 0 2 := by unfold gpm; omega
  unfold pcO
  exact Nat.le_trans (Nat.div_le_self _ _) (by omega)
theorem mx_goodB1 {x y : Int32} (hX : XM mr) (hM : MM M) (hY : XT mr M) (hTn : mr 1000 3 = some M) (hg : GB t) (hW : WT t) (hR : RM mi M t) (hb : bad x (t 0 6)) (hp : post (some (.int (-1))) (rf mi (nI 1)) ml mr dom) : CT G 3 0 0 yX13_good cX13_good 3 (some .int) [.ref 1000, .int x, .int y] mi ml mr dom post := by
  have w := hW.1
  have hge := hM.ge
  refine enter 0 (by decide) rfl rfl (fun X => ?_)
  refine j_aload_n dX13_good_0 rfl rfl ?_
  refine j_iconst (v := nI 0) dX13_good_1 (by decide) ?_
  refine pI13_51 rfl dX13_good_2 ?_
  obtain ⟨m1, e1⟩ : ∃ m, m = up mi 1000 0 (nI 0) := ⟨_, rfl⟩
  rw [← e1]
  have hR1 : RM m1 M t := RM_lo hM (fun n hn => by rw [e1, up_off _ _ (by omega)]) hR
  refine j_aload_n dX13_good_5 rfl rfl ?_
  refine j_iload_n dX13_good_6 rfl rfl ?_
  refine cV13_361 (d1 := 1) rfl dX13_good_7 (by decide) (Nat.le_of_ble_eq_true rfl) ?_
  refine m_isGoodB hX hM hY hTn hg hW hR1 hb ?_
  refine j_if_eq (tgt := 22) dX13_good_10 (by decide) (fun h10 => ?_) (fun h10 => absurd (by decide) h10)
  refine j_aload_n dX13_good_22 rfl rfl ?_
  refine j_iconst (v := nI 1) dX13_good_23 (by decide) ?_
  refine cV13_57 (d1 := 1) rfl dX13_good_24 (by decide) (Nat.le_of_ble_eq_true rfl) ?_
  refine m_refused ?_
  refine j_iret rfl dX13_good_27 ?_
  rw [e1]; exact hp
theorem mx_goodB2 {g : Nat} {y : Int32} (hX : XM mr) (hM : MM M) (hY : XT mr M) (hTn : mr 1000 3 = some M) (hg : GB t) (hW : WT t) (hR : RM mi M t) (h1 : g < t 0 6) (hb : bad y 4) (hp : post (some (.int (-1))) (rf mi (nI 1)) ml mr dom) : CT G 3 0 0 yX13_good cX13_good 3 (some .int) [.ref 1000, .int (nI g), .int y] mi ml mr dom post := by
  have w := hW.1
  have hge := hM.ge
  refine enter 0 (by decide) rfl rfl (fun X => ?_)
  refine j_aload_n dX13_good_0 rfl rfl ?_
  refine j_iconst (v := nI 0) dX13_good_1 (by decide) ?_
  refine pI13_51 rfl dX13_good_2 ?_
  obtain ⟨m1, e1⟩ : ∃ m, m = up mi 1000 0 (nI 0) := ⟨_, rfl⟩
  rw [← e1]
  have hR1 : RM m1 M t := RM_lo hM (fun n hn => by rw [e1, up_off _ _ (by omega)]) hR
  refine j_aload_n dX13_good_5 rfl rfl ?_
  refine j_iload_n dX13_good_6 rfl rfl ?_
  refine cV13_361 (d1 := 1) rfl dX13_good_7 (by decide) (Nat.le_of_ble_eq_true rfl) ?_
  refine m_isGoodG hX hM hY hTn hg hW hR1 (by omega) ?_
  refine j_if_eq (tgt := 22) dX13_good_10 (by decide) (fun h10 => absurd h10 (by decide)) (fun h10 => ?_)
  refine j_iload_n dX13_good_13 rfl rfl ?_
  refine j_iconst (v := nI 0) dX13_good_14 (by decide) ?_
  refine j_iconst (v := nI 3) dX13_good_15 (by decide) ?_
  refine cS13_129 (d1 := 1) dX13_good_16 (by decide) (Nat.le_of_ble_eq_true rfl) ?_
  refine m_inB (bad_in (n := 4) (by decide) (by decide) hb) ?_
  refine j_if_ne (tgt := 28) dX13_good_19 (by decide) (fun h19 => absurd (by decide) h19) (fun h19 => ?_)
  refine j_aload_n dX13_good_22 rfl rfl ?_
  refine j_iconst (v := nI 1) dX13_good_23 (by decide) ?_
  refine cV13_57 (d1 := 1) rfl dX13_good_24 (by decide) (Nat.le_of_ble_eq_true rfl) ?_
  refine m_refused ?_
  refine j_iret rfl dX13_good_27 ?_
  rw [e1]; exact hp
theorem mx_good0 {g : Nat} (hX : XM mr) (hM : MM M) (hY : XT mr M) (hTn : mr 1000 3 = some M) (hg : GB t) (hW : WT t) (hR : RM mi M t) (h1 : g < t 0 6) (hp : post (some (.int (nI (t 8 g)))) (fa mi) ml mr dom) : CT G 3 0 0 yX13_good cX13_good 3 (some .int) [.ref 1000, .int (nI g), .int (nI 0)] mi ml mr dom post := by
  have w := hW.1
  have hge := hM.ge
  refine enter 0 (by decide) rfl rfl (fun X => ?_)
  refine j_aload_n dX13_good_0 rfl rfl ?_
  refine j_iconst (v := nI 0) dX13_good_1 (by decide) ?_
  refine pI13_51 rfl dX13_good_2 ?_
  obtain ⟨m1, e1⟩ : ∃ m, m = up mi 1000 0 (nI 0) := ⟨_, rfl⟩
  rw [← e1]
  have hR1 : RM m1 M t := RM_lo hM (fun n hn => by rw [e1, up_off _ _ (by omega)]) hR
  refine j_aload_n dX13_good_5 rfl rfl ?_
  refine j_iload_n dX13_good_6 rfl rfl ?_
  refine cV13_361 (d1 := 1) rfl dX13_good_7 (by decide) (Nat.le_of_ble_eq_true rfl) ?_
  refine m_isGoodG hX hM hY hTn hg hW hR1 (by omega) ?_
  refine j_if_eq (tgt := 22) dX13_good_10 (by decide) (fun h10 => absurd h10 (by decide)) (fun h10 => ?_)
  refine j_iload_n dX13_good_13 rfl rfl ?_
  refine j_iconst (v := nI 0) dX13_good_14 (by decide) ?_
  refine j_iconst (v := nI 3) dX13_good_15 (by decide) ?_
  refine cS13_129 (d1 := 1) dX13_good_16 (by decide) (Nat.le_of_ble_eq_true rfl) ?_
  refine m_inG (by show 0 ≤ 0; omega) (by show 0 ≤ 3; omega) (by decide) ?_
  refine j_if_ne (tgt := 28) dX13_good_19 (by decide) (fun h19 => ?_) (fun h19 => absurd h19 (by decide))
  refine j_iload_n dX13_good_28 rfl rfl ?_
  refine j_tableIn (tgt := 56) dX13_good_29 (by decide) (by decide) (by rfl) (by decide) ?_
  refine j_aload_n dX13_good_56 rfl rfl ?_
  refine j_aload_n dX13_good_57 rfl rfl ?_
  refine gR13_335 rfl dX13_good_58 hTn ?_
  refine gR13_296 (kM0 hM) dX13_good_61 (xM8 hY) ?_
  refine j_iload_n dX13_good_64 rfl rfl ?_
  refine j_iald (kM8 hM) (inT (lM8 hM) (by show g < 5; omega) (by decide)) dX13_good_65 ?_
  rw [nI_clamp (by omega), rM8 hR1 (by show g < 5; omega)]
  refine cV13_61 (d1 := 1) rfl dX13_good_66 (by decide) (Nat.le_of_ble_eq_true rfl) ?_
  refine m_fair ?_
  refine j_iret rfl dX13_good_69 ?_
  rw [e1]; exact hp
theorem mx_good1 {g : Nat} (hX : XM mr) (hM : MM M) (hY : XT mr M) (hTn : mr 1000 3 = some M) (hg : GB t) (hW : WT t) (hR : RM mi M t) (h1 : g < t 0 6) (hp : post (some (.int (nI (t 10 g)))) (fa mi) ml mr dom) : CT G 3 0 0 yX13_good cX13_good 3 (some .int) [.ref 1000, .int (nI g), .int (nI 1)] mi ml mr dom post := by
  have w := hW.1
  have hge := hM.ge
  refine enter 0 (by decide) rfl rfl (fun X => ?_)
  refine j_aload_n dX13_good_0 rfl rfl ?_
  refine j_iconst (v := nI 0) dX13_good_1 (by decide) ?_
  refine pI13_51 rfl dX13_good_2 ?_
  obtain ⟨m1, e1⟩ : ∃ m, m = up mi 1000 0 (nI 0) := ⟨_, rfl⟩
  rw [← e1]
  have hR1 : RM m1 M t := RM_lo hM (fun n hn => by rw [e1, up_off _ _ (by omega)]) hR
  refine j_aload_n dX13_good_5 rfl rfl ?_
  refine j_iload_n dX13_good_6 rfl rfl ?_
  refine cV13_361 (d1 := 1) rfl dX13_good_7 (by decide) (Nat.le_of_ble_eq_true rfl) ?_
  refine m_isGoodG hX hM hY hTn hg hW hR1 (by omega) ?_
  refine j_if_eq (tgt := 22) dX13_good_10 (by decide) (fun h10 => absurd h10 (by decide)) (fun h10 => ?_)
  refine j_iload_n dX13_good_13 rfl rfl ?_
  refine j_iconst (v := nI 0) dX13_good_14 (by decide) ?_
  refine j_iconst (v := nI 3) dX13_good_15 (by decide) ?_
  refine cS13_129 (d1 := 1) dX13_good_16 (by decide) (Nat.le_of_ble_eq_true rfl) ?_
  refine m_inG (by show 0 ≤ 1; omega) (by show 1 ≤ 3; omega) (by decide) ?_
  refine j_if_ne (tgt := 28) dX13_good_19 (by decide) (fun h19 => ?_) (fun h19 => absurd h19 (by decide))
  refine j_iload_n dX13_good_28 rfl rfl ?_
  refine j_tableIn (tgt := 70) dX13_good_29 (by decide) (by decide) (by rfl) (by decide) ?_
  refine j_aload_n dX13_good_70 rfl rfl ?_
  refine j_aload_n dX13_good_71 rfl rfl ?_
  refine gR13_335 rfl dX13_good_72 hTn ?_
  refine gR13_300 (kM0 hM) dX13_good_75 (xM10 hY) ?_
  refine j_iload_n dX13_good_78 rfl rfl ?_
  refine j_iald (kM10 hM) (inT (lM10 hM) (by show g < 5; omega) (by decide)) dX13_good_79 ?_
  rw [nI_clamp (by omega), rM10 hR1 (by show g < 5; omega)]
  refine cV13_61 (d1 := 1) rfl dX13_good_80 (by decide) (Nat.le_of_ble_eq_true rfl) ?_
  refine m_fair ?_
  refine j_iret rfl dX13_good_83 ?_
  rw [e1]; exact hp
theorem mx_good2 {g : Nat} (hX : XM mr) (hM : MM M) (hY : XT mr M) (hTn : mr 1000 3 = some M) (hg : GB t) (hW : WT t) (hR : RM mi M t) (hV : VM mi t v) (h1 : g < t 0 6) (hp : post (some (.int (nI (v (6 + g))))) (fa mi) ml mr dom) : CT G 3 0 0 yX13_good cX13_good 3 (some .int) [.ref 1000, .int (nI g), .int (nI 2)] mi ml mr dom post := by
  have w := hW.1
  have hge := hM.ge
  refine enter 0 (by decide) rfl rfl (fun X => ?_)
  refine j_aload_n dX13_good_0 rfl rfl ?_
  refine j_iconst (v := nI 0) dX13_good_1 (by decide) ?_
  refine pI13_51 rfl dX13_good_2 ?_
  obtain ⟨m1, e1⟩ : ∃ m, m = up mi 1000 0 (nI 0) := ⟨_, rfl⟩
  rw [← e1]
  have hR1 : RM m1 M t := RM_lo hM (fun n hn => by rw [e1, up_off _ _ (by omega)]) hR
  have hV1 : VM m1 t v := VM_off (by rw [e1, up_off _ _ (by decide)]) hV
  refine j_aload_n dX13_good_5 rfl rfl ?_
  refine j_iload_n dX13_good_6 rfl rfl ?_
  refine cV13_361 (d1 := 1) rfl dX13_good_7 (by decide) (Nat.le_of_ble_eq_true rfl) ?_
  refine m_isGoodG hX hM hY hTn hg hW hR1 (by omega) ?_
  refine j_if_eq (tgt := 22) dX13_good_10 (by decide) (fun h10 => absurd h10 (by decide)) (fun h10 => ?_)
  refine j_iload_n dX13_good_13 rfl rfl ?_
  refine j_iconst (v := nI 0) dX13_good_14 (by decide) ?_
  refine j_iconst (v := nI 3) dX13_good_15 (by decide) ?_
  refine cS13_129 (d1 := 1) dX13_good_16 (by decide) (Nat.le_of_ble_eq_true rfl) ?_
  refine m_inG (by show 0 ≤ 2; omega) (by show 2 ≤ 3; omega) (by decide) ?_
  refine j_if_ne (tgt := 28) dX13_good_19 (by decide) (fun h19 => ?_) (fun h19 => absurd h19 (by decide))
  refine j_iload_n dX13_good_28 rfl rfl ?_
  refine j_tableIn (tgt := 84) dX13_good_29 (by decide) (by decide) (by rfl) (by decide) ?_
  refine j_aload_n dX13_good_84 rfl rfl ?_
  refine j_aload_n dX13_good_85 rfl rfl ?_
  refine gR13_17 rfl dX13_good_86 (x1002 hX) ?_
  refine j_bipush (v := nI 6) dX13_good_89 (by decide) ?_
  refine j_iload_n dX13_good_91 rfl rfl ?_
  refine j_iadd dX13_good_92 ?_
  rw [nI_add]
  refine j_iald rfl (inT (show ln 1002 = 13 from rfl) (by show 6 + g < 13; omega) (by decide)) dX13_good_93 ?_
  rw [nI_clamp (by omega), (hV1.2.1 g (by show g < t 0 6; omega)).1]
  refine cV13_61 (d1 := 1) rfl dX13_good_94 (by decide) (Nat.le_of_ble_eq_true rfl) ?_
  refine m_fair ?_
  refine j_iret rfl dX13_good_97 ?_
  rw [e1]; exact hp
theorem mx_good3 {g : Nat} (hX : XM mr) (hM : MM M) (hY : XT mr M) (hTn : mr 1000 3 = some M) (hg : GB t) (hW : WT t) (hR : RM mi M t) (hL : 60 ≤ t 0 2) (h1 : g < t 0 6) (hp : post (some (.int (nI (pcO t g)))) (fa mi) ml mr dom) : CT G 3 0 0 yX13_good cX13_good 3 (some .int) [.ref 1000, .int (nI g), .int (nI 3)] mi ml mr dom post := by
  have w := hW.1
  have hge := hM.ge
  refine enter 0 (by decide) rfl rfl (fun X => ?_)
  refine j_aload_n dX13_good_0 rfl rfl ?_
  refine j_iconst (v := nI 0) dX13_good_1 (by decide) ?_
  refine pI13_51 rfl dX13_good_2 ?_
  obtain ⟨m1, e1⟩ : ∃ m, m = up mi 1000 0 (nI 0) := ⟨_, rfl⟩
  rw [← e1]
  have hR1 : RM m1 M t := RM_lo hM (fun n hn => by rw [e1, up_off _ _ (by omega)]) hR
  refine j_aload_n dX13_good_5 rfl rfl ?_
  refine j_iload_n dX13_good_6 rfl rfl ?_
  refine cV13_361 (d1 := 1) rfl dX13_good_7 (by decide) (Nat.le_of_ble_eq_true rfl) ?_
  refine m_isGoodG hX hM hY hTn hg hW hR1 (by omega) ?_
  refine j_if_eq (tgt := 22) dX13_good_10 (by decide) (fun h10 => absurd h10 (by decide)) (fun h10 => ?_)
  refine j_iload_n dX13_good_13 rfl rfl ?_
  refine j_iconst (v := nI 0) dX13_good_14 (by decide) ?_
  refine j_iconst (v := nI 3) dX13_good_15 (by decide) ?_
  refine cS13_129 (d1 := 1) dX13_good_16 (by decide) (Nat.le_of_ble_eq_true rfl) ?_
  refine m_inG (by show 0 ≤ 3; omega) (by show 3 ≤ 3; omega) (by decide) ?_
  refine j_if_ne (tgt := 28) dX13_good_19 (by decide) (fun h19 => ?_) (fun h19 => absurd h19 (by decide))
  refine j_iload_n dX13_good_28 rfl rfl ?_
  refine j_tableOut (tgt := 98) dX13_good_29 (by decide) (by decide) ?_
  refine j_aload_n dX13_good_98 rfl rfl ?_
  refine j_aload_n dX13_good_99 rfl rfl ?_
  refine j_iload_n dX13_good_100 rfl rfl ?_
  refine cV13_364 (d1 := 2) rfl dX13_good_101 (by decide) (Nat.le_of_ble_eq_true rfl) ?_
  refine m_piecesOf hX hM hY hTn hg hW hR1 hL (by omega) ?_
  refine cV13_61 (d1 := 1) rfl dX13_good_104 (by decide) (Nat.le_of_ble_eq_true rfl) ?_
  refine m_fair ?_
  refine j_iret rfl dX13_good_107 ?_
  rw [e1]; exact hp
theorem mx_lightB {x : Int32} (hX : XM mr) (hM : MM M) (hY : XT mr M) (hTn : mr 1000 3 = some M) (hg : GB t) (hW : WT t) (hR : RM mi M t) (hb : bad x 24) (hp : post (some (.int (-1))) (rf mi (nI 2)) ml mr dom) : CT G 3 0 0 yX13_light cX13_light 2 (some .int) [.ref 1000, .int x] mi ml mr dom post := by
  have w := hW.1
  have hge := hM.ge
  refine enter 0 (by decide) rfl rfl (fun X => ?_)
  refine j_aload_n dX13_light_0 rfl rfl ?_
  refine j_iconst (v := nI 0) dX13_light_1 (by decide) ?_
  refine pI13_51 rfl dX13_light_2 ?_
  obtain ⟨m1, e1⟩ : ∃ m, m = up mi 1000 0 (nI 0) := ⟨_, rfl⟩
  rw [← e1]
  have hR1 : RM m1 M t := RM_lo hM (fun n hn => by rw [e1, up_off _ _ (by omega)]) hR
  refine j_aload_n dX13_light_5 rfl rfl ?_
  refine gR13_335 rfl dX13_light_6 hTn ?_
  refine j_ifnonnull (tgt := 18) dX13_light_9 (by decide) ?_
  refine j_iload_n dX13_light_18 rfl rfl ?_
  refine j_iconst (v := nI 0) dX13_light_19 (by decide) ?_
  refine j_bipush (v := nI 23) dX13_light_20 (by decide) ?_
  refine cS13_129 (d1 := 1) dX13_light_22 (by decide) (Nat.le_of_ble_eq_true rfl) ?_
  refine m_inB (bad_in (n := 24) (by decide) (by decide) hb) ?_
  refine j_if_eq (tgt := 51) dX13_light_25 (by decide) (fun h25 => ?_) (fun h25 => absurd (by decide) h25)
  refine j_aload_n dX13_light_51 rfl rfl ?_
  refine j_iconst (v := nI 2) dX13_light_52 (by decide) ?_
  refine cV13_57 (d1 := 1) rfl dX13_light_53 (by decide) (Nat.le_of_ble_eq_true rfl) ?_
  refine m_refused ?_
  refine j_iret rfl dX13_light_56 ?_
  rw [e1]; exact hp
theorem mx_light {x : Nat} (hX : XM mr) (hM : MM M) (hY : XT mr M) (hTn : mr 1000 3 = some M) (hg : GB t) (hW : WT t) (hR : RM mi M t) (h1 : x < 24) (hp : post (some (.int (nI (bN (isD t x))))) (fa mi) ml mr dom) : CT G 3 0 0 yX13_light cX13_light 2 (some .int) [.ref 1000, .int (nI x)] mi ml mr dom post := by
  have w := hW.1
  have hge := hM.ge
  refine enter 0 (by decide) rfl rfl (fun X => ?_)
  refine j_aload_n dX13_light_0 rfl rfl ?_
  refine j_iconst (v := nI 0) dX13_light_1 (by decide) ?_
  refine pI13_51 rfl dX13_light_2 ?_
  obtain ⟨m1, e1⟩ : ∃ m, m = up mi 1000 0 (nI 0) := ⟨_, rfl⟩
  rw [← e1]
  have hR1 : RM m1 M t := RM_lo hM (fun n hn => by rw [e1, up_off _ _ (by omega)]) hR
  refine j_aload_n dX13_light_5 rfl rfl ?_
  refine gR13_335 rfl dX13_light_6 hTn ?_
  refine j_ifnonnull (tgt := 18) dX13_light_9 (by decide) ?_
  refine j_iload_n dX13_light_18 rfl rfl ?_
  refine j_iconst (v := nI 0) dX13_light_19 (by decide) ?_
  refine j_bipush (v := nI 23) dX13_light_20 (by decide) ?_
  refine cS13_129 (d1 := 1) dX13_light_22 (by decide) (Nat.le_of_ble_eq_true rfl) ?_
  refine m_inG (by show 0 ≤ x; omega) (by show x ≤ 23; omega) (by decide) ?_
  refine j_if_eq (tgt := 51) dX13_light_25 (by decide) (fun h25 => absurd h25 (by decide)) (fun h25 => ?_)
  refine j_aload_n dX13_light_28 rfl rfl ?_
  refine j_aload_n dX13_light_29 rfl rfl ?_
  refine gR13_335 rfl dX13_light_30 hTn ?_
  refine j_iload_n dX13_light_33 rfl rfl ?_
  refine cV13_367 (d1 := 1) (kM0 hM) dX13_light_34 (by decide) (Nat.le_of_ble_eq_true rfl) ?_
  refine m_isDay hM hY hg hW hR1 (by omega) ?_
  refine j_if_eq (tgt := 44) dX13_light_37 (by decide) (fun h37 => ?_) (fun h37 => ?_)
  all_goals rw [bN_eq0] at h37
  · refine j_iconst (v := nI 0) dX13_light_44 (by decide) ?_
    refine cV13_61 (d1 := 1) rfl dX13_light_45 (by decide) (Nat.le_of_ble_eq_true rfl) ?_
    refine m_fair ?_
    refine j_goto (tgt := 56) dX13_light_48 (by decide) ?_
    refine j_iret rfl dX13_light_56 ?_
    rw [e1]
    first
      | (rw [show isD t x = false by assumption] at hp; exact hp)
      | (rw [Bool.not_eq_false] at *; rw [show isD t x = true by assumption] at hp; exact hp)
  · refine j_iconst (v := nI 1) dX13_light_40 (by decide) ?_
    refine j_goto (tgt := 45) dX13_light_41 (by decide) ?_
    refine cV13_61 (d1 := 1) rfl dX13_light_45 (by decide) (Nat.le_of_ble_eq_true rfl) ?_
    refine m_fair ?_
    refine j_goto (tgt := 56) dX13_light_48 (by decide) ?_
    refine j_iret rfl dX13_light_56 ?_
    rw [e1]
    first
      | (rw [show isD t x = false by assumption] at hp; exact hp)
      | (rw [Bool.not_eq_false] at *; rw [show isD t x = true by assumption] at hp; exact hp)
theorem mx_seenB1 {x y z : Int32} (hX : XM mr) (hM : MM M) (hY : XT mr M) (hTn : mr 1000 3 = some M) (hg : GB t) (hW : WT t) (hR : RM mi M t) (hb : bad x (t 0 5)) (hp : post (some (.int (-1))) (rf mi (nI 1)) ml mr dom) : CT G 3 0 0 yX13_seen cX13_seen 5 (some .int) [.ref 1000, .int x, .int y, .int z] mi ml mr dom post := by
  have w := hW.1
  have hge := hM.ge
  refine enter 1 (by decide) rfl rfl (fun X => ?_)
  refine j_aload_n dX13_seen_0 rfl rfl ?_
  refine j_iconst (v := nI 0) dX13_seen_1 (by decide) ?_
  refine pI13_51 rfl dX13_seen_2 ?_
  obtain ⟨m1, e1⟩ : ∃ m, m = up mi 1000 0 (nI 0) := ⟨_, rfl⟩
  rw [← e1]
  have hR1 : RM m1 M t := RM_lo hM (fun n hn => by rw [e1, up_off _ _ (by omega)]) hR
  refine j_aload_n dX13_seen_5 rfl rfl ?_
  refine j_aload_n dX13_seen_6 rfl rfl ?_
  refine j_iload_n dX13_seen_7 rfl rfl ?_
  refine cV13_355 (d1 := 1) rfl dX13_seen_8 (by decide) (Nat.le_of_ble_eq_true rfl) ?_
  refine m_isPersonB hX hM hY hTn hg hW hR1 hb ?_
  refine j_if_eq (tgt := 26) dX13_seen_11 (by decide) (fun h11 => ?_) (fun h11 => absurd (by decide) h11)
  refine j_iconst (v := nI 0) dX13_seen_26 (by decide) ?_
  refine j_iload_n dX13_seen_27 rfl rfl ?_
  refine cV13_370 (d1 := 2) rfl dX13_seen_28 (by decide) (Nat.le_of_ble_eq_true rfl) ?_
  refine m_rhN ?_
  refine j_istore (lv2 := [_, _, _, _, _]) dX13_seen_31 (by decide) rfl rfl ?_
  refine j_iload dX13_seen_33 rfl ?_
  refine j_if_le (tgt := 47) dX13_seen_35 (by decide) (fun h35 => absurd h35 (by decide)) (fun h35 => ?_)
  refine j_aload_n dX13_seen_38 rfl rfl ?_
  refine j_iload dX13_seen_39 rfl ?_
  refine cV13_57 (d1 := 1) rfl dX13_seen_41 (by decide) (Nat.le_of_ble_eq_true rfl) ?_
  refine m_refused ?_
  refine j_goto (tgt := 61) dX13_seen_44 (by decide) ?_
  refine j_iret rfl dX13_seen_61 ?_
  rw [e1]; exact hp
theorem mx_seenB2 {p : Nat} {y z : Int32} (hX : XM mr) (hM : MM M) (hY : XT mr M) (hTn : mr 1000 3 = some M) (hg : GB t) (hW : WT t) (hR : RM mi M t) (h1 : p < t 0 5) (hb : bad y (t 0 3)) (hp : post (some (.int (-1))) (rf mi (nI 1)) ml mr dom) : CT G 3 0 0 yX13_seen cX13_seen 5 (some .int) [.ref 1000, .int (nI p), .int y, .int z] mi ml mr dom post := by
  have w := hW.1
  have hge := hM.ge
  refine enter 1 (by decide) rfl rfl (fun X => ?_)
  refine j_aload_n dX13_seen_0 rfl rfl ?_
  refine j_iconst (v := nI 0) dX13_seen_1 (by decide) ?_
  refine pI13_51 rfl dX13_seen_2 ?_
  obtain ⟨m1, e1⟩ : ∃ m, m = up mi 1000 0 (nI 0) := ⟨_, rfl⟩
  rw [← e1]
  have hR1 : RM m1 M t := RM_lo hM (fun n hn => by rw [e1, up_off _ _ (by omega)]) hR
  refine j_aload_n dX13_seen_5 rfl rfl ?_
  refine j_aload_n dX13_seen_6 rfl rfl ?_
  refine j_iload_n dX13_seen_7 rfl rfl ?_
  refine cV13_355 (d1 := 1) rfl dX13_seen_8 (by decide) (Nat.le_of_ble_eq_true rfl) ?_
  refine m_isPersonG hX hM hY hTn hg hW hR1 (by omega) ?_
  refine j_if_eq (tgt := 26) dX13_seen_11 (by decide) (fun h11 => absurd h11 (by decide)) (fun h11 => ?_)
  refine j_aload_n dX13_seen_14 rfl rfl ?_
  refine j_iload_n dX13_seen_15 rfl rfl ?_
  refine cV13_352 (d1 := 1) rfl dX13_seen_16 (by decide) (Nat.le_of_ble_eq_true rfl) ?_
  refine m_isHouseB hX hM hY hTn hg hW hR1 hb ?_
  refine j_if_eq (tgt := 26) dX13_seen_19 (by decide) (fun h19 => ?_) (fun h19 => absurd (by decide) h19)
  refine j_iconst (v := nI 0) dX13_seen_26 (by decide) ?_
  refine j_iload_n dX13_seen_27 rfl rfl ?_
  refine cV13_370 (d1 := 2) rfl dX13_seen_28 (by decide) (Nat.le_of_ble_eq_true rfl) ?_
  refine m_rhN ?_
  refine j_istore (lv2 := [_, _, _, _, _]) dX13_seen_31 (by decide) rfl rfl ?_
  refine j_iload dX13_seen_33 rfl ?_
  refine j_if_le (tgt := 47) dX13_seen_35 (by decide) (fun h35 => absurd h35 (by decide)) (fun h35 => ?_)
  refine j_aload_n dX13_seen_38 rfl rfl ?_
  refine j_iload dX13_seen_39 rfl ?_
  refine cV13_57 (d1 := 1) rfl dX13_seen_41 (by decide) (Nat.le_of_ble_eq_true rfl) ?_
  refine m_refused ?_
  refine j_goto (tgt := 61) dX13_seen_44 (by decide) ?_
  refine j_iret rfl dX13_seen_61 ?_
  rw [e1]; exact hp
theorem mx_seenB3 {p h : Nat} {z : Int32} (hX : XM mr) (hM : MM M) (hY : XT mr M) (hTn : mr 1000 3 = some M) (hg : GB t) (hW : WT t) (hR : RM mi M t) (h1 : p < t 0 5) (h2 : h < t 0 3) (hb : bad z 24) (hp : post (some (.int (-1))) (rf mi (nI 2)) ml mr dom) : CT G 3 0 0 yX13_seen cX13_seen 5 (some .int) [.ref 1000, .int (nI p), .int (nI h), .int z] mi ml mr dom post := by
  have w := hW.1
  have hge := hM.ge
  refine enter 1 (by decide) rfl rfl (fun X => ?_)
  refine j_aload_n dX13_seen_0 rfl rfl ?_
  refine j_iconst (v := nI 0) dX13_seen_1 (by decide) ?_
  refine pI13_51 rfl dX13_seen_2 ?_
  obtain ⟨m1, e1⟩ : ∃ m, m = up mi 1000 0 (nI 0) := ⟨_, rfl⟩
  rw [← e1]
  have hR1 : RM m1 M t := RM_lo hM (fun n hn => by rw [e1, up_off _ _ (by omega)]) hR
  refine j_aload_n dX13_seen_5 rfl rfl ?_
  refine j_aload_n dX13_seen_6 rfl rfl ?_
  refine j_iload_n dX13_seen_7 rfl rfl ?_
  refine cV13_355 (d1 := 1) rfl dX13_seen_8 (by decide) (Nat.le_of_ble_eq_true rfl) ?_
  refine m_isPersonG hX hM hY hTn hg hW hR1 (by omega) ?_
  refine j_if_eq (tgt := 26) dX13_seen_11 (by decide) (fun h11 => absurd h11 (by decide)) (fun h11 => ?_)
  refine j_aload_n dX13_seen_14 rfl rfl ?_
  refine j_iload_n dX13_seen_15 rfl rfl ?_
  refine cV13_352 (d1 := 1) rfl dX13_seen_16 (by decide) (Nat.le_of_ble_eq_true rfl) ?_
  refine m_isHouseG hX hM hY hTn hg hW hR1 (by omega) ?_
  refine j_if_eq (tgt := 26) dX13_seen_19 (by decide) (fun h19 => absurd h19 (by decide)) (fun h19 => ?_)
  refine j_iconst (v := nI 1) dX13_seen_22 (by decide) ?_
  refine j_goto (tgt := 27) dX13_seen_23 (by decide) ?_
  refine j_iload_n dX13_seen_27 rfl rfl ?_
  refine cV13_370 (d1 := 2) rfl dX13_seen_28 (by decide) (Nat.le_of_ble_eq_true rfl) ?_
  refine m_rhB hb ?_
  refine j_istore (lv2 := [_, _, _, _, _]) dX13_seen_31 (by decide) rfl rfl ?_
  refine j_iload dX13_seen_33 rfl ?_
  refine j_if_le (tgt := 47) dX13_seen_35 (by decide) (fun h35 => absurd h35 (by decide)) (fun h35 => ?_)
  refine j_aload_n dX13_seen_38 rfl rfl ?_
  refine j_iload dX13_seen_39 rfl ?_
  refine cV13_57 (d1 := 1) rfl dX13_seen_41 (by decide) (Nat.le_of_ble_eq_true rfl) ?_
  refine m_refused ?_
  refine j_goto (tgt := 61) dX13_seen_44 (by decide) ?_
  refine j_iret rfl dX13_seen_61 ?_
  rw [e1]; exact hp
theorem mx_seen {p h x : Nat} (hX : XM mr) (hM : MM M) (hY : XT mr M) (hTn : mr 1000 3 = some M) (hg : GB t) (hW : WT t) (hR : RM mi M t) (h1 : p < t 0 5) (h2 : h < t 0 3) (h3 : x < 24) (hp : post (some (.int (nI (shw (t 4 p) (t 6 p) (t 1 h) (isD t x))))) (fa mi) ml mr dom) : CT G 3 0 0 yX13_seen cX13_seen 5 (some .int) [.ref 1000, .int (nI p), .int (nI h), .int (nI x)] mi ml mr dom post := by
  have w := hW.1
  have hge := hM.ge
  have hs := hW.2.1 h h2
  refine enter 1 (by decide) rfl rfl (fun X => ?_)
  refine j_aload_n dX13_seen_0 rfl rfl ?_
  refine j_iconst (v := nI 0) dX13_seen_1 (by decide) ?_
  refine pI13_51 rfl dX13_seen_2 ?_
  obtain ⟨m1, e1⟩ : ∃ m, m = up mi 1000 0 (nI 0) := ⟨_, rfl⟩
  rw [← e1]
  have hR1 : RM m1 M t := RM_lo hM (fun n hn => by rw [e1, up_off _ _ (by omega)]) hR
  refine j_aload_n dX13_seen_5 rfl rfl ?_
  refine j_aload_n dX13_seen_6 rfl rfl ?_
  refine j_iload_n dX13_seen_7 rfl rfl ?_
  refine cV13_355 (d1 := 1) rfl dX13_seen_8 (by decide) (Nat.le_of_ble_eq_true rfl) ?_
  refine m_isPersonG hX hM hY hTn hg hW hR1 (by omega) ?_
  refine j_if_eq (tgt := 26) dX13_seen_11 (by decide) (fun h11 => absurd h11 (by decide)) (fun h11 => ?_)
  refine j_aload_n dX13_seen_14 rfl rfl ?_
  refine j_iload_n dX13_seen_15 rfl rfl ?_
  refine cV13_352 (d1 := 1) rfl dX13_seen_16 (by decide) (Nat.le_of_ble_eq_true rfl) ?_
  refine m_isHouseG hX hM hY hTn hg hW hR1 (by omega) ?_
  refine j_if_eq (tgt := 26) dX13_seen_19 (by decide) (fun h19 => absurd h19 (by decide)) (fun h19 => ?_)
  refine j_iconst (v := nI 1) dX13_seen_22 (by decide) ?_
  refine j_goto (tgt := 27) dX13_seen_23 (by decide) ?_
  refine j_iload_n dX13_seen_27 rfl rfl ?_
  refine cV13_370 (d1 := 2) rfl dX13_seen_28 (by decide) (Nat.le_of_ble_eq_true rfl) ?_
  refine m_rhG (by omega) ?_
  refine j_istore (lv2 := [_, _, _, _, _]) dX13_seen_31 (by decide) rfl rfl ?_
  refine j_iload dX13_seen_33 rfl ?_
  refine j_if_le (tgt := 47) dX13_seen_35 (by decide) (fun h35 => ?_) (fun h35 => absurd (by decide) h35)
  refine j_aload_n dX13_seen_47 rfl rfl ?_
  refine j_aload_n dX13_seen_48 rfl rfl ?_
  refine gR13_335 rfl dX13_seen_49 hTn ?_
  refine j_iload_n dX13_seen_52 rfl rfl ?_
  refine j_iload_n dX13_seen_53 rfl rfl ?_
  refine j_iload_n dX13_seen_54 rfl rfl ?_
  refine cV13_374 (d1 := 2) (kM0 hM) dX13_seen_55 (by decide) (Nat.le_of_ble_eq_true rfl) ?_
  refine m_seen hM hY hg hW hR1 (by omega) (by omega) (by omega) ?_
  refine cV13_61 (d1 := 1) rfl dX13_seen_58 (by decide) (Nat.le_of_ble_eq_true rfl) ?_
  refine m_fair ?_
  refine j_iret rfl dX13_seen_61 ?_
  rw [e1]; exact hp
theorem mx_fineB1 {x y z : Int32} (hX : XM mr) (hM : MM M) (hY : XT mr M) (hTn : mr 1000 3 = some M) (hg : GB t) (hW : WT t) (hR : RM mi M t) (hb : bad x (t 0 5)) (hp : post (some (.int (-1))) (rf mi (nI 1)) ml mr dom) : CT G 3 0 0 yX13_fine cX13_fine 5 (some .int) [.ref 1000, .int x, .int y, .int z] mi ml mr dom post := by
  have w := hW.1
  have hge := hM.ge
  refine enter 1 (by decide) rfl rfl (fun X => ?_)
  refine j_aload_n dX13_fine_0 rfl rfl ?_
  refine j_iconst (v := nI 0) dX13_fine_1 (by decide) ?_
  refine pI13_51 rfl dX13_fine_2 ?_
  obtain ⟨m1, e1⟩ : ∃ m, m = up mi 1000 0 (nI 0) := ⟨_, rfl⟩
  rw [← e1]
  have hR1 : RM m1 M t := RM_lo hM (fun n hn => by rw [e1, up_off _ _ (by omega)]) hR
  refine j_aload_n dX13_fine_5 rfl rfl ?_
  refine j_aload_n dX13_fine_6 rfl rfl ?_
  refine j_iload_n dX13_fine_7 rfl rfl ?_
  refine cV13_355 (d1 := 1) rfl dX13_fine_8 (by decide) (Nat.le_of_ble_eq_true rfl) ?_
  refine m_isPersonB hX hM hY hTn hg hW hR1 hb ?_
  refine j_if_eq (tgt := 26) dX13_fine_11 (by decide) (fun h11 => ?_) (fun h11 => absurd (by decide) h11)
  refine j_iconst (v := nI 0) dX13_fine_26 (by decide) ?_
  refine j_iload_n dX13_fine_27 rfl rfl ?_
  refine cV13_370 (d1 := 2) rfl dX13_fine_28 (by decide) (Nat.le_of_ble_eq_true rfl) ?_
  refine m_rhN ?_
  refine j_istore (lv2 := [_, _, _, _, _]) dX13_fine_31 (by decide) rfl rfl ?_
  refine j_iload dX13_fine_33 rfl ?_
  refine j_if_le (tgt := 47) dX13_fine_35 (by decide) (fun h35 => absurd h35 (by decide)) (fun h35 => ?_)
  refine j_aload_n dX13_fine_38 rfl rfl ?_
  refine j_iload dX13_fine_39 rfl ?_
  refine cV13_57 (d1 := 1) rfl dX13_fine_41 (by decide) (Nat.le_of_ble_eq_true rfl) ?_
  refine m_refused ?_
  refine j_goto (tgt := 69) dX13_fine_44 (by decide) ?_
  refine j_iret rfl dX13_fine_69 ?_
  rw [e1]; exact hp
theorem mx_fineB2 {p : Nat} {y z : Int32} (hX : XM mr) (hM : MM M) (hY : XT mr M) (hTn : mr 1000 3 = some M) (hg : GB t) (hW : WT t) (hR : RM mi M t) (h1 : p < t 0 5) (hb : bad y (t 0 3)) (hp : post (some (.int (-1))) (rf mi (nI 1)) ml mr dom) : CT G 3 0 0 yX13_fine cX13_fine 5 (some .int) [.ref 1000, .int (nI p), .int y, .int z] mi ml mr dom post := by
  have w := hW.1
  have hge := hM.ge
  refine enter 1 (by decide) rfl rfl (fun X => ?_)
  refine j_aload_n dX13_fine_0 rfl rfl ?_
  refine j_iconst (v := nI 0) dX13_fine_1 (by decide) ?_
  refine pI13_51 rfl dX13_fine_2 ?_
  obtain ⟨m1, e1⟩ : ∃ m, m = up mi 1000 0 (nI 0) := ⟨_, rfl⟩
  rw [← e1]
  have hR1 : RM m1 M t := RM_lo hM (fun n hn => by rw [e1, up_off _ _ (by omega)]) hR
  refine j_aload_n dX13_fine_5 rfl rfl ?_
  refine j_aload_n dX13_fine_6 rfl rfl ?_
  refine j_iload_n dX13_fine_7 rfl rfl ?_
  refine cV13_355 (d1 := 1) rfl dX13_fine_8 (by decide) (Nat.le_of_ble_eq_true rfl) ?_
  refine m_isPersonG hX hM hY hTn hg hW hR1 (by omega) ?_
  refine j_if_eq (tgt := 26) dX13_fine_11 (by decide) (fun h11 => absurd h11 (by decide)) (fun h11 => ?_)
  refine j_aload_n dX13_fine_14 rfl rfl ?_
  refine j_iload_n dX13_fine_15 rfl rfl ?_
  refine cV13_352 (d1 := 1) rfl dX13_fine_16 (by decide) (Nat.le_of_ble_eq_true rfl) ?_
  refine m_isHouseB hX hM hY hTn hg hW hR1 hb ?_
  refine j_if_eq (tgt := 26) dX13_fine_19 (by decide) (fun h19 => ?_) (fun h19 => absurd (by decide) h19)
  refine j_iconst (v := nI 0) dX13_fine_26 (by decide) ?_
  refine j_iload_n dX13_fine_27 rfl rfl ?_
  refine cV13_370 (d1 := 2) rfl dX13_fine_28 (by decide) (Nat.le_of_ble_eq_true rfl) ?_
  refine m_rhN ?_
  refine j_istore (lv2 := [_, _, _, _, _]) dX13_fine_31 (by decide) rfl rfl ?_
  refine j_iload dX13_fine_33 rfl ?_
  refine j_if_le (tgt := 47) dX13_fine_35 (by decide) (fun h35 => absurd h35 (by decide)) (fun h35 => ?_)
  refine j_aload_n dX13_fine_38 rfl rfl ?_
  refine j_iload dX13_fine_39 rfl ?_
  refine cV13_57 (d1 := 1) rfl dX13_fine_41 (by decide) (Nat.le_of_ble_eq_true rfl) ?_
  refine m_refused ?_
  refine j_goto (tgt := 69) dX13_fine_44 (by decide) ?_
  refine j_iret rfl dX13_fine_69 ?_
  rw [e1]; exact hp
theorem mx_fineB3 {p h : Nat} {z : Int32} (hX : XM mr) (hM : MM M) (hY : XT mr M) (hTn : mr 1000 3 = some M) (hg : GB t) (hW : WT t) (hR : RM mi M t) (h1 : p < t 0 5) (h2 : h < t 0 3) (hb : bad z 24) (hp : post (some (.int (-1))) (rf mi (nI 2)) ml mr dom) : CT G 3 0 0 yX13_fine cX13_fine 5 (some .int) [.ref 1000, .int (nI p), .int (nI h), .int z] mi ml mr dom post := by
  have w := hW.1
  have hge := hM.ge
  refine enter 1 (by decide) rfl rfl (fun X => ?_)
  refine j_aload_n dX13_fine_0 rfl rfl ?_
  refine j_iconst (v := nI 0) dX13_fine_1 (by decide) ?_
  refine pI13_51 rfl dX13_fine_2 ?_
  obtain ⟨m1, e1⟩ : ∃ m, m = up mi 1000 0 (nI 0) := ⟨_, rfl⟩
  rw [← e1]
  have hR1 : RM m1 M t := RM_lo hM (fun n hn => by rw [e1, up_off _ _ (by omega)]) hR
  refine j_aload_n dX13_fine_5 rfl rfl ?_
  refine j_aload_n dX13_fine_6 rfl rfl ?_
  refine j_iload_n dX13_fine_7 rfl rfl ?_
  refine cV13_355 (d1 := 1) rfl dX13_fine_8 (by decide) (Nat.le_of_ble_eq_true rfl) ?_
  refine m_isPersonG hX hM hY hTn hg hW hR1 (by omega) ?_
  refine j_if_eq (tgt := 26) dX13_fine_11 (by decide) (fun h11 => absurd h11 (by decide)) (fun h11 => ?_)
  refine j_aload_n dX13_fine_14 rfl rfl ?_
  refine j_iload_n dX13_fine_15 rfl rfl ?_
  refine cV13_352 (d1 := 1) rfl dX13_fine_16 (by decide) (Nat.le_of_ble_eq_true rfl) ?_
  refine m_isHouseG hX hM hY hTn hg hW hR1 (by omega) ?_
  refine j_if_eq (tgt := 26) dX13_fine_19 (by decide) (fun h19 => absurd h19 (by decide)) (fun h19 => ?_)
  refine j_iconst (v := nI 1) dX13_fine_22 (by decide) ?_
  refine j_goto (tgt := 27) dX13_fine_23 (by decide) ?_
  refine j_iload_n dX13_fine_27 rfl rfl ?_
  refine cV13_370 (d1 := 2) rfl dX13_fine_28 (by decide) (Nat.le_of_ble_eq_true rfl) ?_
  refine m_rhB hb ?_
  refine j_istore (lv2 := [_, _, _, _, _]) dX13_fine_31 (by decide) rfl rfl ?_
  refine j_iload dX13_fine_33 rfl ?_
  refine j_if_le (tgt := 47) dX13_fine_35 (by decide) (fun h35 => absurd h35 (by decide)) (fun h35 => ?_)
  refine j_aload_n dX13_fine_38 rfl rfl ?_
  refine j_iload dX13_fine_39 rfl ?_
  refine cV13_57 (d1 := 1) rfl dX13_fine_41 (by decide) (Nat.le_of_ble_eq_true rfl) ?_
  refine m_refused ?_
  refine j_goto (tgt := 69) dX13_fine_44 (by decide) ?_
  refine j_iret rfl dX13_fine_69 ?_
  rw [e1]; exact hp
theorem mx_fine {p h x : Nat} (hX : XM mr) (hM : MM M) (hY : XT mr M) (hTn : mr 1000 3 = some M) (hg : GB t) (hW : WT t) (hR : RM mi M t) (h1 : p < t 0 5) (h2 : h < t 0 3) (h3 : x < 24) (hp : post (some (.int (nI (fineO (t 4 p) (t 6 p) (t 1 h) (isD t x))))) (fa mi) ml mr dom) : CT G 3 0 0 yX13_fine cX13_fine 5 (some .int) [.ref 1000, .int (nI p), .int (nI h), .int (nI x)] mi ml mr dom post := by
  have w := hW.1
  have hge := hM.ge
  have hs := hW.2.1 h h2
  refine enter 1 (by decide) rfl rfl (fun X => ?_)
  refine j_aload_n dX13_fine_0 rfl rfl ?_
  refine j_iconst (v := nI 0) dX13_fine_1 (by decide) ?_
  refine pI13_51 rfl dX13_fine_2 ?_
  obtain ⟨m1, e1⟩ : ∃ m, m = up mi 1000 0 (nI 0) := ⟨_, rfl⟩
  rw [← e1]
  have hR1 : RM m1 M t := RM_lo hM (fun n hn => by rw [e1, up_off _ _ (by omega)]) hR
  refine j_aload_n dX13_fine_5 rfl rfl ?_
  refine j_aload_n dX13_fine_6 rfl rfl ?_
  refine j_iload_n dX13_fine_7 rfl rfl ?_
  refine cV13_355 (d1 := 1) rfl dX13_fine_8 (by decide) (Nat.le_of_ble_eq_true rfl) ?_
  refine m_isPersonG hX hM hY hTn hg hW hR1 (by omega) ?_
  refine j_if_eq (tgt := 26) dX13_fine_11 (by decide) (fun h11 => absurd h11 (by decide)) (fun h11 => ?_)
  refine j_aload_n dX13_fine_14 rfl rfl ?_
  refine j_iload_n dX13_fine_15 rfl rfl ?_
  refine cV13_352 (d1 := 1) rfl dX13_fine_16 (by decide) (Nat.le_of_ble_eq_true rfl) ?_
  refine m_isHouseG hX hM hY hTn hg hW hR1 (by omega) ?_
  refine j_if_eq (tgt := 26) dX13_fine_19 (by decide) (fun h19 => absurd h19 (by decide)) (fun h19 => ?_)
  refine j_iconst (v := nI 1) dX13_fine_22 (by decide) ?_
  refine j_goto (tgt := 27) dX13_fine_23 (by decide) ?_
  refine j_iload_n dX13_fine_27 rfl rfl ?_
  refine cV13_370 (d1 := 2) rfl dX13_fine_28 (by decide) (Nat.le_of_ble_eq_true rfl) ?_
  refine m_rhG (by omega) ?_
  refine j_istore (lv2 := [_, _, _, _, _]) dX13_fine_31 (by decide) rfl rfl ?_
  refine j_iload dX13_fine_33 rfl ?_
  refine j_if_le (tgt := 47) dX13_fine_35 (by decide) (fun h35 => ?_) (fun h35 => absurd (by decide) h35)
  refine j_aload_n dX13_fine_47 rfl rfl ?_
  refine j_aload_n dX13_fine_48 rfl rfl ?_
  refine gR13_335 rfl dX13_fine_49 hTn ?_
  refine j_iload_n dX13_fine_52 rfl rfl ?_
  refine j_aload_n dX13_fine_53 rfl rfl ?_
  refine gR13_335 rfl dX13_fine_54 hTn ?_
  refine gR13_249 (kM0 hM) dX13_fine_57 (xM1 hY) ?_
  refine j_iload_n dX13_fine_60 rfl rfl ?_
  refine j_iald (kM1 hM) (inT (lM1 hM) (by show h < 6; omega) (by decide)) dX13_fine_61 ?_
  rw [nI_clamp (by omega), rM1 hR1 (by show h < 6; omega)]
  refine j_iload_n dX13_fine_62 rfl rfl ?_
  refine cV13_388 (d1 := 2) (kM0 hM) dX13_fine_63 (by decide) (Nat.le_of_ble_eq_true rfl) ?_
  refine m_fineBy hM hY hg hW hR1 (by omega) (by have := hg 1 h; omega) (by omega) ?_
  refine cV13_61 (d1 := 1) rfl dX13_fine_66 (by decide) (Nat.le_of_ble_eq_true rfl) ?_
  refine m_fair ?_
  refine j_iret rfl dX13_fine_69 ?_
  rw [e1]; exact hp
theorem mx_house2 {h : Nat} (hX : XM mr) (hM : MM M) (hY : XT mr M) (hTn : mr 1000 3 = some M) (hg : GB t) (hW : WT t) (hR : RM mi M t) (hV : VM mi t v) (h1 : h < t 0 3) (hp : post (some (.int (nI (bst (fun p => decide (v p = h)) (t 0 5))))) (fa mi) ml mr dom) : CT G 3 0 0 yX13_house cX13_house 5 (some .int) [.ref 1000, .int (nI h), .int (nI 2)] mi ml mr dom post := by
  have w := hW.1
  have hge := hM.ge
  refine enter 2 (by decide) rfl rfl (fun X => ?_)
  refine j_aload_n dX13_house_0 rfl rfl ?_
  refine j_iconst (v := nI 0) dX13_house_1 (by decide) ?_
  refine pI13_51 rfl dX13_house_2 ?_
  obtain ⟨m1, e1⟩ : ∃ m, m = up mi 1000 0 (nI 0) := ⟨_, rfl⟩
  rw [← e1]
  have hR1 : RM m1 M t := RM_lo hM (fun n hn => by rw [e1, up_off _ _ (by omega)]) hR
  have hV1 : VM m1 t v := VM_off (by rw [e1, up_off _ _ (by decide)]) hV
  refine j_aload_n dX13_house_5 rfl rfl ?_
  refine j_iload_n dX13_house_6 rfl rfl ?_
  refine cV13_352 (d1 := 1) rfl dX13_house_7 (by decide) (Nat.le_of_ble_eq_true rfl) ?_
  refine m_isHouseG hX hM hY hTn hg hW hR1 (by omega) ?_
  refine j_if_eq (tgt := 22) dX13_house_10 (by decide) (fun h10 => absurd h10 (by decide)) (fun h10 => ?_)
  refine j_iload_n dX13_house_13 rfl rfl ?_
  refine j_iconst (v := nI 0) dX13_house_14 (by decide) ?_
  refine j_iconst (v := nI 3) dX13_house_15 (by decide) ?_
  refine cS13_129 (d1 := 1) dX13_house_16 (by decide) (Nat.le_of_ble_eq_true rfl) ?_
  refine m_inG (by show 0 ≤ 2; omega) (by show 2 ≤ 3; omega) (by decide) ?_
  refine j_if_ne (tgt := 28) dX13_house_19 (by decide) (fun h19 => ?_) (fun h19 => absurd h19 (by decide))
  refine j_iload_n dX13_house_28 rfl rfl ?_
  refine j_iconst (v := nI 2) dX13_house_29 (by decide) ?_
  refine j_icmp_ge (tgt := 62) dX13_house_30 (by decide) (fun h30 => ?_) (fun h30 => absurd (by decide) h30)
  refine j_iconst (v := nI 0) dX13_house_62 (by decide) ?_
  refine j_istore_n (lv2 := [_, _, _, _, _]) dX13_house_63 rfl (by decide) rfl rfl ?_
  refine j_iload_n dX13_house_64 rfl rfl ?_
  refine j_iconst (v := nI 2) dX13_house_65 (by decide) ?_
  refine j_icmp_ne (tgt := 117) dX13_house_66 (by decide) (fun h66 => absurd (by decide) h66) (fun h66 => ?_)
  refine j_iconst (v := nI 0) dX13_house_69 (by decide) ?_
  refine j_istore (lv2 := [_, _, _, _, _]) dX13_house_70 (by decide) rfl rfl ?_
  refine lq (n := t 0 5) (H := fun i => J cX13_house 5 yX13_house.cls yX13_house.name (some .int) 3 G X post 0 0 m1 ml mr dom 72 [some (.ref 1000), some (.int (nI h)), some (.int (nI 2)), some (.int (nI (bst (fun p => decide (v p = h)) i))), some (.int (nI i))] []) ?_ (fun i hi ih => ?_)
  · skip
    refine j_iload dX13_house_72 rfl ?_
    refine j_aload_n dX13_house_74 rfl rfl ?_
    refine gR13_335 rfl dX13_house_75 hTn ?_
    refine gI13_199 (kM0 hM) dX13_house_78 ?_
    rw [hR1.1 5 (by decide)]
    refine j_icmp_ge (tgt := 114) dX13_house_81 (by decide) (fun h81 => ?_) (fun h81 => by exfalso; rw [nI_leI (by have := hg 0 5; omega) (by have := hg 0 5; omega)] at h81; have := hg 0 5; omega)
    refine j_goto (tgt := 163) dX13_house_114 (by decide) ?_
    refine j_aload_n dX13_house_163 rfl rfl ?_
    refine j_iload_n dX13_house_164 rfl rfl ?_
    refine cV13_61 (d1 := 1) rfl dX13_house_165 (by decide) (Nat.le_of_ble_eq_true rfl) ?_
    refine m_fair ?_
    refine j_iret rfl dX13_house_168 ?_
    rw [e1]; exact hp
  · skip
    refine j_iload dX13_house_72 rfl ?_
    refine j_aload_n dX13_house_74 rfl rfl ?_
    refine gR13_335 rfl dX13_house_75 hTn ?_
    refine gI13_199 (kM0 hM) dX13_house_78 ?_
    rw [hR1.1 5 (by decide)]
    refine j_icmp_ge (tgt := 114) dX13_house_81 (by decide) (fun h81 => by exfalso; rw [nI_leI (by have := hg 0 5; omega) (by omega)] at h81; have := hg 0 5; omega) (fun h81 => ?_)
    refine j_iload_n dX13_house_84 rfl rfl ?_
    refine j_aload_n dX13_house_85 rfl rfl ?_
    refine gR13_17 rfl dX13_house_86 (x1002 hX) ?_
    refine j_iconst (v := nI 0) dX13_house_89 (by decide) ?_
    refine j_iload dX13_house_90 rfl ?_
    refine j_iadd dX13_house_92 ?_
    rw [show nI 0 + nI i = nI i by rw [nI_add, Nat.zero_add]]
    refine j_iald rfl (inT (show ln 1002 = 13 from rfl) (by show i < 13; omega) (by decide)) dX13_house_93 ?_
    rw [nI_clamp (by omega), (hV1.1 i (by show i < t 0 5; omega)).1]
    refine j_iload_n dX13_house_94 rfl rfl ?_
    refine j_icmp_ne (tgt := 105) dX13_house_95 (by decide) (fun h95 => ?_) (fun h95 => ?_)
    all_goals rw [nI_eq (by have := (hV1.1 i (by show i < t 0 5; omega)).2; have := hg 0 3; omega) (by omega)] at h95
    · refine j_iconst (v := nI 0) dX13_house_105 (by decide) ?_
      refine j_ior dX13_house_106 ?_
      rw [or_0]
      refine j_istore_n (lv2 := [_, _, _, _, _]) dX13_house_107 rfl (by decide) rfl rfl ?_
      refine j_iinc1 (lv2 := [_, _, _, _, _]) dX13_house_108 rfl (by decide) rfl rfl ?_
      rw [nI_1]
      refine j_goto (tgt := 72) dX13_house_111 (by decide) ?_
      rw [bst, if_neg (show ¬ (fun p => decide (v p = h)) i = true by first | assumption | simp_all | (simp only [decide_eq_true_eq, Bool.and_eq_true, Bool.not_eq_true']; omega) | (simp [*]))] at ih
      exact ih
    · refine j_iconst (v := nI 1) dX13_house_98 (by decide) ?_
      refine j_iload dX13_house_99 rfl ?_
      refine j_ishl dX13_house_101 ?_
      refine j_goto (tgt := 106) dX13_house_102 (by decide) ?_
      refine j_ior dX13_house_106 ?_
      rw [bit_or _ (by have := bst_256 (fun p => decide (v p = h)) (show i ≤ 8 by omega); show bst (fun p => decide (v p = h)) i < 256; omega) _ (by show i < 8; omega)]
      refine j_istore_n (lv2 := [_, _, _, _, _]) dX13_house_107 rfl (by decide) rfl rfl ?_
      refine j_iinc1 (lv2 := [_, _, _, _, _]) dX13_house_108 rfl (by decide) rfl rfl ?_
      rw [nI_1]
      refine j_goto (tgt := 72) dX13_house_111 (by decide) ?_
      rw [bst, if_pos (show (fun p => decide (v p = h)) i = true by first | assumption | simp_all | (simp only [decide_eq_true_eq, Bool.and_eq_true, Bool.not_eq_true']; omega) | (simp [*]))] at ih
      exact ih
theorem mx_house3 {h : Nat} (hX : XM mr) (hM : MM M) (hY : XT mr M) (hTn : mr 1000 3 = some M) (hg : GB t) (hW : WT t) (hR : RM mi M t) (hV : VM mi t v) (h1 : h < t 0 3) (hp : post (some (.int (nI (bst (fun g => decide (v (6 + g) = h)) (t 0 6))))) (fa mi) ml mr dom) : CT G 3 0 0 yX13_house cX13_house 5 (some .int) [.ref 1000, .int (nI h), .int (nI 3)] mi ml mr dom post := by
  have w := hW.1
  have hge := hM.ge
  refine enter 2 (by decide) rfl rfl (fun X => ?_)
  refine j_aload_n dX13_house_0 rfl rfl ?_
  refine j_iconst (v := nI 0) dX13_house_1 (by decide) ?_
  refine pI13_51 rfl dX13_house_2 ?_
  obtain ⟨m1, e1⟩ : ∃ m, m = up mi 1000 0 (nI 0) := ⟨_, rfl⟩
  rw [← e1]
  have hR1 : RM m1 M t := RM_lo hM (fun n hn => by rw [e1, up_off _ _ (by omega)]) hR
  have hV1 : VM m1 t v := VM_off (by rw [e1, up_off _ _ (by decide)]) hV
  refine j_aload_n dX13_house_5 rfl rfl ?_
  refine j_iload_n dX13_house_6 rfl rfl ?_
  refine cV13_352 (d1 := 1) rfl dX13_house_7 (by decide) (Nat.le_of_ble_eq_true rfl) ?_
  refine m_isHouseG hX hM hY hTn hg hW hR1 (by omega) ?_
  refine j_if_eq (tgt := 22) dX13_house_10 (by decide) (fun h10 => absurd h10 (by decide)) (fun h10 => ?_)
  refine j_iload_n dX13_house_13 rfl rfl ?_
  refine j_iconst (v := nI 0) dX13_house_14 (by decide) ?_
  refine j_iconst (v := nI 3) dX13_house_15 (by decide) ?_
  refine cS13_129 (d1 := 1) dX13_house_16 (by decide) (Nat.le_of_ble_eq_true rfl) ?_
  refine m_inG (by show 0 ≤ 3; omega) (by show 3 ≤ 3; omega) (by decide) ?_
  refine j_if_ne (tgt := 28) dX13_house_19 (by decide) (fun h19 => ?_) (fun h19 => absurd h19 (by decide))
  refine j_iload_n dX13_house_28 rfl rfl ?_
  refine j_iconst (v := nI 2) dX13_house_29 (by decide) ?_
  refine j_icmp_ge (tgt := 62) dX13_house_30 (by decide) (fun h30 => ?_) (fun h30 => absurd (by decide) h30)
  refine j_iconst (v := nI 0) dX13_house_62 (by decide) ?_
  refine j_istore_n (lv2 := [_, _, _, _, _]) dX13_house_63 rfl (by decide) rfl rfl ?_
  refine j_iload_n dX13_house_64 rfl rfl ?_
  refine j_iconst (v := nI 2) dX13_house_65 (by decide) ?_
  refine j_icmp_ne (tgt := 117) dX13_house_66 (by decide) (fun h66 => ?_) (fun h66 => absurd h66 (by decide))
  refine j_iconst (v := nI 0) dX13_house_117 (by decide) ?_
  refine j_istore (lv2 := [_, _, _, _, _]) dX13_house_118 (by decide) rfl rfl ?_
  refine lq (n := t 0 6) (H := fun i => J cX13_house 5 yX13_house.cls yX13_house.name (some .int) 3 G X post 0 0 m1 ml mr dom 120 [some (.ref 1000), some (.int (nI h)), some (.int (nI 3)), some (.int (nI (bst (fun g => decide (v (6 + g) = h)) i))), some (.int (nI i))] []) ?_ (fun i hi ih => ?_)
  · skip
    refine j_iload dX13_house_120 rfl ?_
    refine j_aload_n dX13_house_122 rfl rfl ?_
    refine gR13_335 rfl dX13_house_123 hTn ?_
    refine gI13_288 (kM0 hM) dX13_house_126 ?_
    rw [hR1.1 6 (by decide)]
    refine j_icmp_ge (tgt := 163) dX13_house_129 (by decide) (fun h129 => ?_) (fun h129 => by exfalso; rw [nI_leI (by have := hg 0 6; omega) (by have := hg 0 6; omega)] at h129; have := hg 0 6; omega)
    refine j_aload_n dX13_house_163 rfl rfl ?_
    refine j_iload_n dX13_house_164 rfl rfl ?_
    refine cV13_61 (d1 := 1) rfl dX13_house_165 (by decide) (Nat.le_of_ble_eq_true rfl) ?_
    refine m_fair ?_
    refine j_iret rfl dX13_house_168 ?_
    rw [e1]; exact hp
  · skip
    refine j_iload dX13_house_120 rfl ?_
    refine j_aload_n dX13_house_122 rfl rfl ?_
    refine gR13_335 rfl dX13_house_123 hTn ?_
    refine gI13_288 (kM0 hM) dX13_house_126 ?_
    rw [hR1.1 6 (by decide)]
    refine j_icmp_ge (tgt := 163) dX13_house_129 (by decide) (fun h129 => by exfalso; rw [nI_leI (by have := hg 0 6; omega) (by omega)] at h129; have := hg 0 6; omega) (fun h129 => ?_)
    refine j_iload_n dX13_house_132 rfl rfl ?_
    refine j_aload_n dX13_house_133 rfl rfl ?_
    refine gR13_17 rfl dX13_house_134 (x1002 hX) ?_
    refine j_bipush (v := nI 6) dX13_house_137 (by decide) ?_
    refine j_iload dX13_house_139 rfl ?_
    refine j_iadd dX13_house_141 ?_
    rw [nI_add]
    refine j_iald rfl (inT (show ln 1002 = 13 from rfl) (by show 6 + i < 13; omega) (by decide)) dX13_house_142 ?_
    rw [nI_clamp (by omega), (hV1.2.1 i (by show i < t 0 6; omega)).1]
    refine j_iload_n dX13_house_143 rfl rfl ?_
    refine j_icmp_ne (tgt := 154) dX13_house_144 (by decide) (fun h144 => ?_) (fun h144 => ?_)
    all_goals rw [nI_eq (by have := (hV1.2.1 i (by show i < t 0 6; omega)).2; have := hg 0 3; omega) (by omega)] at h144
    · refine j_iconst (v := nI 0) dX13_house_154 (by decide) ?_
      refine j_ior dX13_house_155 ?_
      rw [or_0]
      refine j_istore_n (lv2 := [_, _, _, _, _]) dX13_house_156 rfl (by decide) rfl rfl ?_
      refine j_iinc1 (lv2 := [_, _, _, _, _]) dX13_house_157 rfl (by decide) rfl rfl ?_
      rw [nI_1]
      refine j_goto (tgt := 120) dX13_house_160 (by decide) ?_
      rw [bst, if_neg (show ¬ (fun g => decide (v (6 + g) = h)) i = true by first | assumption | simp_all | (simp only [decide_eq_true_eq, Bool.and_eq_true, Bool.not_eq_true']; omega) | (simp [*]))] at ih
      exact ih
    · refine j_iconst (v := nI 1) dX13_house_147 (by decide) ?_
      refine j_iload dX13_house_148 rfl ?_
      refine j_ishl dX13_house_150 ?_
      refine j_goto (tgt := 155) dX13_house_151 (by decide) ?_
      refine j_ior dX13_house_155 ?_
      rw [bit_or _ (by have := bst_256 (fun g => decide (v (6 + g) = h)) (show i ≤ 8 by omega); show bst (fun g => decide (v (6 + g) = h)) i < 256; omega) _ (by show i < 8; omega)]
      refine j_istore_n (lv2 := [_, _, _, _, _]) dX13_house_156 rfl (by decide) rfl rfl ?_
      refine j_iinc1 (lv2 := [_, _, _, _, _]) dX13_house_157 rfl (by decide) rfl rfl ?_
      rw [nI_1]
      refine j_goto (tgt := 120) dX13_house_160 (by decide) ?_
      rw [bst, if_pos (show (fun g => decide (v (6 + g) = h)) i = true by first | assumption | simp_all | (simp only [decide_eq_true_eq, Bool.and_eq_true, Bool.not_eq_true']; omega) | (simp [*]))] at ih
      exact ih
theorem m_takenFor {p h x : Nat} (hX : XM mr) (hM : MM M) (hY : XT mr M) (hTn : mr 1000 3 = some M) (hg : GB t) (hW : WT t) (hR : RM mi M t) (h1 : p < t 0 5) (h2 : h < t 0 3) (hx : x < 2 ^ 31) (hp : post (some (.int (nI (dbl t p (t 1 h) (isD t x))))) mi ml mr dom) : CT G 4 0 0 yX13_takenFor cX13_takenFor 6 (some .int) [.ref 1000, .int (nI p), .int (nI h), .int (nI x)] mi ml mr dom post := by
  have w := hW.1
  refine enter 2 (by decide) rfl rfl (fun X => ?_)
  refine j_iconst (v := nI 0) dX13_takenFor_0 (by decide) ?_
  refine j_istore (lv2 := [_, _, _, _, _, _]) dX13_takenFor_1 (by decide) rfl rfl ?_
  refine j_iconst (v := nI 0) dX13_takenFor_3 (by decide) ?_
  refine j_istore (lv2 := [_, _, _, _, _, _]) dX13_takenFor_4 (by decide) rfl rfl ?_
  refine lq (n := t 0 5) (H := fun i => J cX13_takenFor 6 yX13_takenFor.cls yX13_takenFor.name (some .int) 4 G X post 0 0 mi ml mr dom 6 [some (.ref 1000), some (.int (nI p)), some (.int (nI h)), some (.int (nI x)), some (.int (nI (bst (fun q => decide (q ≠ p) && passF t p q (t 1 h) (isD t x)) i))), some (.int (nI i))] []) ?_ (fun i hi ih => ?_)
  · skip
    refine j_iload dX13_takenFor_6 rfl ?_
    refine j_aload_n dX13_takenFor_8 rfl rfl ?_
    refine gR13_335 rfl dX13_takenFor_9 hTn ?_
    refine gI13_199 (kM0 hM) dX13_takenFor_12 ?_
    rw [hR.1 5 (by decide)]
    refine j_icmp_ge (tgt := 52) dX13_takenFor_15 (by decide) (fun h15 => ?_) (fun h15 => by exfalso; rw [nI_leI (by have := hg 0 5; omega) (by have := hg 0 5; omega)] at h15; have := hg 0 5; omega)
    refine j_iload dX13_takenFor_52 rfl ?_
    refine j_iret rfl dX13_takenFor_54 ?_
    exact hp
  · skip
    refine j_iload dX13_takenFor_6 rfl ?_
    refine j_aload_n dX13_takenFor_8 rfl rfl ?_
    refine gR13_335 rfl dX13_takenFor_9 hTn ?_
    refine gI13_199 (kM0 hM) dX13_takenFor_12 ?_
    rw [hR.1 5 (by decide)]
    refine j_icmp_ge (tgt := 52) dX13_takenFor_15 (by decide) (fun h15 => by exfalso; rw [nI_leI (by have := hg 0 5; omega) (by omega)] at h15; have := hg 0 5; omega) (fun h15 => ?_)
    refine j_iload dX13_takenFor_18 rfl ?_
    refine j_aload_n dX13_takenFor_20 rfl rfl ?_
    refine gR13_335 rfl dX13_takenFor_21 hTn ?_
    refine j_iload_n dX13_takenFor_24 rfl rfl ?_
    refine j_iload dX13_takenFor_25 rfl ?_
    refine j_iload_n dX13_takenFor_27 rfl rfl ?_
    refine j_iload_n dX13_takenFor_28 rfl rfl ?_
    refine cV13_378 (d1 := 3) (kM0 hM) dX13_takenFor_29 (by decide) (Nat.le_of_ble_eq_true rfl) ?_
    refine m_isTaken hM hY hg hW hR (by omega) (by omega) (by omega) (by omega) ?_
    refine j_if_eq (tgt := 42) dX13_takenFor_32 (by decide) (fun h32 => ?_) (fun h32 => ?_)
    all_goals rw [bN_eq0] at h32
    · refine j_iconst (v := nI 0) dX13_takenFor_42 (by decide) ?_
      refine j_ior dX13_takenFor_43 ?_
      rw [or_0]
      refine j_istore (lv2 := [_, _, _, _, _, _]) dX13_takenFor_44 (by decide) rfl rfl ?_
      refine j_iinc1 (lv2 := [_, _, _, _, _, _]) dX13_takenFor_46 rfl (by decide) rfl rfl ?_
      rw [nI_1]
      refine j_goto (tgt := 6) dX13_takenFor_49 (by decide) ?_
      rw [bst, if_neg (show ¬ (fun q => decide (q ≠ p) && passF t p q (t 1 h) (isD t x)) i = true by first | assumption | simp_all | (simp only [decide_eq_true_eq, Bool.and_eq_true, Bool.not_eq_true']; omega) | (simp [*]))] at ih
      exact ih
    · refine j_iconst (v := nI 1) dX13_takenFor_35 (by decide) ?_
      refine j_iload dX13_takenFor_36 rfl ?_
      refine j_ishl dX13_takenFor_38 ?_
      refine j_goto (tgt := 43) dX13_takenFor_39 (by decide) ?_
      refine j_ior dX13_takenFor_43 ?_
      rw [bit_or _ (by have := bst_256 (fun q => decide (q ≠ p) && passF t p q (t 1 h) (isD t x)) (show i ≤ 8 by omega); show bst (fun q => decide (q ≠ p) && passF t p q (t 1 h) (isD t x)) i < 256; omega) _ (by show i < 8; omega)]
      refine j_istore (lv2 := [_, _, _, _, _, _]) dX13_takenFor_44 (by decide) rfl rfl ?_
      refine j_iinc1 (lv2 := [_, _, _, _, _, _]) dX13_takenFor_46 rfl (by decide) rfl rfl ?_
      rw [nI_1]
      refine j_goto (tgt := 6) dX13_takenFor_49 (by decide) ?_
      rw [bst, if_pos (show (fun q => decide (q ≠ p) && passF t p q (t 1 h) (isD t x)) i = true by first | assumption | simp_all | (simp only [decide_eq_true_eq, Bool.and_eq_true, Bool.not_eq_true']; omega) | (simp [*]))] at ih
      exact ih
theorem mx_takenB1 {x y z : Int32} (hX : XM mr) (hM : MM M) (hY : XT mr M) (hTn : mr 1000 3 = some M) (hg : GB t) (hW : WT t) (hR : RM mi M t) (hb : bad x (t 0 5)) (hp : post (some (.int (-1))) (rf mi (nI 1)) ml mr dom) : CT G 3 0 0 yX13_taken cX13_taken 5 (some .int) [.ref 1000, .int x, .int y, .int z] mi ml mr dom post := by
  have w := hW.1
  have hge := hM.ge
  refine enter 1 (by decide) rfl rfl (fun X => ?_)
  refine j_aload_n dX13_taken_0 rfl rfl ?_
  refine j_iconst (v := nI 0) dX13_taken_1 (by decide) ?_
  refine pI13_51 rfl dX13_taken_2 ?_
  obtain ⟨m1, e1⟩ : ∃ m, m = up mi 1000 0 (nI 0) := ⟨_, rfl⟩
  rw [← e1]
  have hR1 : RM m1 M t := RM_lo hM (fun n hn => by rw [e1, up_off _ _ (by omega)]) hR
  refine j_aload_n dX13_taken_5 rfl rfl ?_
  refine j_aload_n dX13_taken_6 rfl rfl ?_
  refine j_iload_n dX13_taken_7 rfl rfl ?_
  refine cV13_355 (d1 := 1) rfl dX13_taken_8 (by decide) (Nat.le_of_ble_eq_true rfl) ?_
  refine m_isPersonB hX hM hY hTn hg hW hR1 hb ?_
  refine j_if_eq (tgt := 26) dX13_taken_11 (by decide) (fun h11 => ?_) (fun h11 => absurd (by decide) h11)
  refine j_iconst (v := nI 0) dX13_taken_26 (by decide) ?_
  refine j_iload_n dX13_taken_27 rfl rfl ?_
  refine cV13_370 (d1 := 2) rfl dX13_taken_28 (by decide) (Nat.le_of_ble_eq_true rfl) ?_
  refine m_rhN ?_
  refine j_istore (lv2 := [_, _, _, _, _]) dX13_taken_31 (by decide) rfl rfl ?_
  refine j_iload dX13_taken_33 rfl ?_
  refine j_if_le (tgt := 47) dX13_taken_35 (by decide) (fun h35 => absurd h35 (by decide)) (fun h35 => ?_)
  refine j_aload_n dX13_taken_38 rfl rfl ?_
  refine j_iload dX13_taken_39 rfl ?_
  refine cV13_57 (d1 := 1) rfl dX13_taken_41 (by decide) (Nat.le_of_ble_eq_true rfl) ?_
  refine m_refused ?_
  refine j_goto (tgt := 58) dX13_taken_44 (by decide) ?_
  refine j_iret rfl dX13_taken_58 ?_
  rw [e1]; exact hp
theorem mx_takenB2 {p : Nat} {y z : Int32} (hX : XM mr) (hM : MM M) (hY : XT mr M) (hTn : mr 1000 3 = some M) (hg : GB t) (hW : WT t) (hR : RM mi M t) (h1 : p < t 0 5) (hb : bad y (t 0 3)) (hp : post (some (.int (-1))) (rf mi (nI 1)) ml mr dom) : CT G 3 0 0 yX13_taken cX13_taken 5 (some .int) [.ref 1000, .int (nI p), .int y, .int z] mi ml mr dom post := by
  have w := hW.1
  have hge := hM.ge
  refine enter 1 (by decide) rfl rfl (fun X => ?_)
  refine j_aload_n dX13_taken_0 rfl rfl ?_
  refine j_iconst (v := nI 0) dX13_taken_1 (by decide) ?_
  refine pI13_51 rfl dX13_taken_2 ?_
  obtain ⟨m1, e1⟩ : ∃ m, m = up mi 1000 0 (nI 0) := ⟨_, rfl⟩
  rw [← e1]
  have hR1 : RM m1 M t := RM_lo hM (fun n hn => by rw [e1, up_off _ _ (by omega)]) hR
  refine j_aload_n dX13_taken_5 rfl rfl ?_
  refine j_aload_n dX13_taken_6 rfl rfl ?_
  refine j_iload_n dX13_taken_7 rfl rfl ?_
  refine cV13_355 (d1 := 1) rfl dX13_taken_8 (by decide) (Nat.le_of_ble_eq_true rfl) ?_
  refine m_isPersonG hX hM hY hTn hg hW hR1 (by omega) ?_
  refine j_if_eq (tgt := 26) dX13_taken_11 (by decide) (fun h11 => absurd h11 (by decide)) (fun h11 => ?_)
  refine j_aload_n dX13_taken_14 rfl rfl ?_
  refine j_iload_n dX13_taken_15 rfl rfl ?_
  refine cV13_352 (d1 := 1) rfl dX13_taken_16 (by decide) (Nat.le_of_ble_eq_true rfl) ?_
  refine m_isHouseB hX hM hY hTn hg hW hR1 hb ?_
  refine j_if_eq (tgt := 26) dX13_taken_19 (by decide) (fun h19 => ?_) (fun h19 => absurd (by decide) h19)
  refine j_iconst (v := nI 0) dX13_taken_26 (by decide) ?_
  refine j_iload_n dX13_taken_27 rfl rfl ?_
  refine cV13_370 (d1 := 2) rfl dX13_taken_28 (by decide) (Nat.le_of_ble_eq_true rfl) ?_
  refine m_rhN ?_
  refine j_istore (lv2 := [_, _, _, _, _]) dX13_taken_31 (by decide) rfl rfl ?_
  refine j_iload dX13_taken_33 rfl ?_
  refine j_if_le (tgt := 47) dX13_taken_35 (by decide) (fun h35 => absurd h35 (by decide)) (fun h35 => ?_)
  refine j_aload_n dX13_taken_38 rfl rfl ?_
  refine j_iload dX13_taken_39 rfl ?_
  refine cV13_57 (d1 := 1) rfl dX13_taken_41 (by decide) (Nat.le_of_ble_eq_true rfl) ?_
  refine m_refused ?_
  refine j_goto (tgt := 58) dX13_taken_44 (by decide) ?_
  refine j_iret rfl dX13_taken_58 ?_
  rw [e1]; exact hp
theorem mx_takenB3 {p h : Nat} {z : Int32} (hX : XM mr) (hM : MM M) (hY : XT mr M) (hTn : mr 1000 3 = some M) (hg : GB t) (hW : WT t) (hR : RM mi M t) (h1 : p < t 0 5) (h2 : h < t 0 3) (hb : bad z 24) (hp : post (some (.int (-1))) (rf mi (nI 2)) ml mr dom) : CT G 3 0 0 yX13_taken cX13_taken 5 (some .int) [.ref 1000, .int (nI p), .int (nI h), .int z] mi ml mr dom post := by
  have w := hW.1
  have hge := hM.ge
  refine enter 1 (by decide) rfl rfl (fun X => ?_)
  refine j_aload_n dX13_taken_0 rfl rfl ?_
  refine j_iconst (v := nI 0) dX13_taken_1 (by decide) ?_
  refine pI13_51 rfl dX13_taken_2 ?_
  obtain ⟨m1, e1⟩ : ∃ m, m = up mi 1000 0 (nI 0) := ⟨_, rfl⟩
  rw [← e1]
  have hR1 : RM m1 M t := RM_lo hM (fun n hn => by rw [e1, up_off _ _ (by omega)]) hR
  refine j_aload_n dX13_taken_5 rfl rfl ?_
  refine j_aload_n dX13_taken_6 rfl rfl ?_
  refine j_iload_n dX13_taken_7 rfl rfl ?_
  refine cV13_355 (d1 := 1) rfl dX13_taken_8 (by decide) (Nat.le_of_ble_eq_true rfl) ?_
  refine m_isPersonG hX hM hY hTn hg hW hR1 (by omega) ?_
  refine j_if_eq (tgt := 26) dX13_taken_11 (by decide) (fun h11 => absurd h11 (by decide)) (fun h11 => ?_)
  refine j_aload_n dX13_taken_14 rfl rfl ?_
  refine j_iload_n dX13_taken_15 rfl rfl ?_
  refine cV13_352 (d1 := 1) rfl dX13_taken_16 (by decide) (Nat.le_of_ble_eq_true rfl) ?_
  refine m_isHouseG hX hM hY hTn hg hW hR1 (by omega) ?_
  refine j_if_eq (tgt := 26) dX13_taken_19 (by decide) (fun h19 => absurd h19 (by decide)) (fun h19 => ?_)
  refine j_iconst (v := nI 1) dX13_taken_22 (by decide) ?_
  refine j_goto (tgt := 27) dX13_taken_23 (by decide) ?_
  refine j_iload_n dX13_taken_27 rfl rfl ?_
  refine cV13_370 (d1 := 2) rfl dX13_taken_28 (by decide) (Nat.le_of_ble_eq_true rfl) ?_
  refine m_rhB hb ?_
  refine j_istore (lv2 := [_, _, _, _, _]) dX13_taken_31 (by decide) rfl rfl ?_
  refine j_iload dX13_taken_33 rfl ?_
  refine j_if_le (tgt := 47) dX13_taken_35 (by decide) (fun h35 => absurd h35 (by decide)) (fun h35 => ?_)
  refine j_aload_n dX13_taken_38 rfl rfl ?_
  refine j_iload dX13_taken_39 rfl ?_
  refine cV13_57 (d1 := 1) rfl dX13_taken_41 (by decide) (Nat.le_of_ble_eq_true rfl) ?_
  refine m_refused ?_
  refine j_goto (tgt := 58) dX13_taken_44 (by decide) ?_
  refine j_iret rfl dX13_taken_58 ?_
  rw [e1]; exact hp
theorem mx_taken {p h x : Nat} (hX : XM mr) (hM : MM M) (hY : XT mr M) (hTn : mr 1000 3 = some M) (hg : GB t) (hW : WT t) (hR : RM mi M t) (h1 : p < t 0 5) (h2 : h < t 0 3) (h3 : x < 24) (hp : post (some (.int (nI (dbl t p (t 1 h) (isD t x))))) (fa mi) ml mr dom) : CT G 5 0 0 yX13_taken cX13_taken 5 (some .int) [.ref 1000, .int (nI p), .int (nI h), .int (nI x)] mi ml mr dom post := by
  have w := hW.1
  have hge := hM.ge
  refine enter 1 (by decide) rfl rfl (fun X => ?_)
  refine j_aload_n dX13_taken_0 rfl rfl ?_
  refine j_iconst (v := nI 0) dX13_taken_1 (by decide) ?_
  refine pI13_51 rfl dX13_taken_2 ?_
  obtain ⟨m1, e1⟩ : ∃ m, m = up mi 1000 0 (nI 0) := ⟨_, rfl⟩
  rw [← e1]
  have hR1 : RM m1 M t := RM_lo hM (fun n hn => by rw [e1, up_off _ _ (by omega)]) hR
  refine j_aload_n dX13_taken_5 rfl rfl ?_
  refine j_aload_n dX13_taken_6 rfl rfl ?_
  refine j_iload_n dX13_taken_7 rfl rfl ?_
  refine cV13_355 (d1 := 1) rfl dX13_taken_8 (by decide) (Nat.le_of_ble_eq_true rfl) ?_
  refine m_isPersonG hX hM hY hTn hg hW hR1 (by omega) ?_
  refine j_if_eq (tgt := 26) dX13_taken_11 (by decide) (fun h11 => absurd h11 (by decide)) (fun h11 => ?_)
  refine j_aload_n dX13_taken_14 rfl rfl ?_
  refine j_iload_n dX13_taken_15 rfl rfl ?_
  refine cV13_352 (d1 := 1) rfl dX13_taken_16 (by decide) (Nat.le_of_ble_eq_true rfl) ?_
  refine m_isHouseG hX hM hY hTn hg hW hR1 (by omega) ?_
  refine j_if_eq (tgt := 26) dX13_taken_19 (by decide) (fun h19 => absurd h19 (by decide)) (fun h19 => ?_)
  refine j_iconst (v := nI 1) dX13_taken_22 (by decide) ?_
  refine j_goto (tgt := 27) dX13_taken_23 (by decide) ?_
  refine j_iload_n dX13_taken_27 rfl rfl ?_
  refine cV13_370 (d1 := 2) rfl dX13_taken_28 (by decide) (Nat.le_of_ble_eq_true rfl) ?_
  refine m_rhG (by omega) ?_
  refine j_istore (lv2 := [_, _, _, _, _]) dX13_taken_31 (by decide) rfl rfl ?_
  refine j_iload dX13_taken_33 rfl ?_
  refine j_if_le (tgt := 47) dX13_taken_35 (by decide) (fun h35 => ?_) (fun h35 => absurd (by decide) h35)
  refine j_aload_n dX13_taken_47 rfl rfl ?_
  refine j_aload_n dX13_taken_48 rfl rfl ?_
  refine j_iload_n dX13_taken_49 rfl rfl ?_
  refine j_iload_n dX13_taken_50 rfl rfl ?_
  refine j_iload_n dX13_taken_51 rfl rfl ?_
  refine cV13_382 (d1 := 4) rfl dX13_taken_52 (by decide) (Nat.le_of_ble_eq_true rfl) ?_
  refine m_takenFor hX hM hY hTn hg hW hR1 (by omega) (by omega) (by omega) ?_
  refine cV13_61 (d1 := 1) rfl dX13_taken_55 (by decide) (Nat.le_of_ble_eq_true rfl) ?_
  refine m_fair ?_
  refine j_iret rfl dX13_taken_58 ?_
  rw [e1]; exact hp
end M13
