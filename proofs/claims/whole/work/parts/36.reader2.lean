/-! the class: Reader, step; words -/
section C6b
variable {G : GG} {post : PT} {mi : MI} {ml : ML} {mr : MR} {dom : List Nat} {B : Nat → Nat} {n p : Nat}
theorem sxq {b : Nat} (h : b < 256) : sx b = 32 ↔ b = 32 := by have := dcd (sx_lt b h).2.2.2.2.1; rw [this]
theorem sxq59 {b : Nat} (h : b < 256) : sx b = 59 ↔ b = 59 := by have := dcd (sx_lt b h).2.2.2.2.2.1; rw [this]
theorem c_step (hB : RB mi ml mr B n) (hpn : p ≤ n) (h5 : mi 2 5 = nI p) (hp : ∀ mi' ml', F2 mi ml mi' ml' → mi' 2 8 = mi 2 8 → RD mi' ml' B n p → post none mi' ml' mr dom) : CT G 3 0 0 yX6_step cX6_step 1 none [.ref 2] mi ml mr dom post := by
  have hn := hB.2.2.1
  have hge := tA_ge B n p
  have hle := tA_le B hpn
  refine enter 0 (by decide) rfl rfl (fun X => ?_)
  refine j_aload_n dX6_step_0 rfl rfl ?_
  refine j_aload_n dX6_step_1 rfl rfl ?_
  refine gI6_28 rfl dX6_step_2 ?_
  rw [h5]
  refine pI6_25 rfl dX6_step_5 ?_
  skip
  refine rq_loop (Q := fun k => decide (B k = 32)) (n := n) (p := p) (H := fun i => J cX6_step 1 yX6_step.cls yX6_step.name none 3 G X post 0 0 (up mi 2 4 (nI i)) ml mr dom 8 [some (.ref 2)] []) (fun i hai hi hq ih => ?_) ?_
  · have e3 : up mi 2 4 (nI i) 2 3 = nI n := by rw [up_ne _ _ (by decide)]; exact hB.2.2.2.2.1
    have e1 : up mi 2 4 (nI i) 1 = mi 1 := up_off _ _ (by decide)
    refine j_aload_n dX6_step_8 rfl rfl ?_
    refine gI6_25 rfl dX6_step_9 ?_
    refine j_aload_n dX6_step_12 rfl rfl ?_
    refine gI6_22 rfl dX6_step_13 ?_
    rw [up_at, e3]
    refine j_icmp_ge (tgt := 46) dX6_step_16 (by decide) (fun h16 => absurd h16 (nI_ge hi (by omega))) (fun _ => ?_)
    refine j_aload_n dX6_step_19 rfl rfl ?_
    refine gR6_18 rfl dX6_step_20 (hB.2.1) ?_
    refine j_aload_n dX6_step_23 rfl rfl ?_
    refine gI6_25 rfl dX6_step_24 ?_
    rw [up_at]
    refine j_bald rfl (inT (show ln 1 = 1100 from rfl) (show i < 1100 by omega) (by decide)) dX6_step_27 ?_
    rw [nI_clamp (by omega), e1, (hB.2.2.2.1 i hi).1]
    refine j_bipush (v := 32) dX6_step_28 (by decide) ?_
    refine j_icmp_ne (tgt := 46) dX6_step_30 (by decide) (fun h30 => absurd ((sxq (hB.2.2.2.1 i hi).2).mpr (by simpa using hq)) h30) (fun _ => ?_)
    refine j_aload_n dX6_step_33 rfl rfl ?_
    refine j_dup dX6_step_34 rfl ?_
    refine gI6_25 rfl dX6_step_35 ?_
    refine j_iconst (v := 1) dX6_step_38 (by decide) ?_
    refine j_iadd dX6_step_39 ?_
    refine pI6_25 rfl dX6_step_40 ?_
    refine j_goto (tgt := 8) dX6_step_43 (by decide) ?_
    rw [up_at, nI_1, up_up]
    exact ih
  · show J cX6_step 1 yX6_step.cls yX6_step.name none 3 G X post 0 0 (up mi 2 4 (nI (tA B n p))) ml mr dom 8 [some (.ref 2)] []
    have e3 : up mi 2 4 (nI (tA B n p)) 2 3 = nI n := by rw [up_ne _ _ (by decide)]; exact hB.2.2.2.2.1
    have e1 : up mi 2 4 (nI (tA B n p)) 1 = mi 1 := up_off _ _ (by decide)
    have hk : J cX6_step 1 yX6_step.cls yX6_step.name none 3 G X post 0 0 (up mi 2 4 (nI (tA B n p))) ml mr dom 46 [some (.ref 2)] [] := by
      refine j_aload_n dX6_step_46 rfl rfl ?_
      refine j_aload_n dX6_step_47 rfl rfl ?_
      refine gI6_25 rfl dX6_step_48 ?_
      rw [up_at]
      refine pI6_28 rfl dX6_step_51 ?_
      refine j_aload_n dX6_step_54 rfl rfl ?_
      refine j_lconst (v := 0) dX6_step_55 (by decide) ?_
      refine pL6_34 rfl dX6_step_56 ?_
      generalize hM : up (up mi 2 4 (nI (tA B n p))) 2 5 (nI (tA B n p)) = m2
      have m4 : m2 2 4 = nI (tA B n p) := by rw [← hM]; simp [up]
      have m5 : m2 2 5 = nI (tA B n p) := by rw [← hM]; simp [up]
      have m3 : m2 2 3 = nI n := by rw [← hM]; simp [up, hB.2.2.2.2.1]
      have m13 : m2 2 13 = mi 2 13 := by rw [← hM]; simp [up]
      have m8 : m2 2 8 = mi 2 8 := by rw [← hM]; simp [up]
      have f2 : ∀ b, b ≠ 2 → m2 b = mi b := fun b hb => by rw [← hM]; simp only [up_off _ _ hb]
      have hB2 : RB m2 (upl ml 2 7 0) mr B n := hB.f2 ⟨f2, fun b hb => upl_off _ _ hb, m3.trans hB.2.2.2.2.1.symm, m13⟩
      refine j_aload_n dX6_step_59 rfl rfl ?_
      refine gI6_25 rfl dX6_step_60 ?_
      refine j_aload_n dX6_step_63 rfl rfl ?_
      refine gI6_22 rfl dX6_step_64 ?_
      rw [m4, m3]
      refine j_icmp_lt (tgt := 78) dX6_step_67 (by decide) (fun h67 => ?_) (fun h67 => ?_)
      · have hlt : (tA B n p) < n := by rw [nI_ltI (by omega) (by omega)] at h67; exact h67
        have hb1 := hB.2.2.2.1 (tA B n p) hlt
        refine j_aload_n dX6_step_78 rfl rfl ?_
        refine gR6_18 rfl dX6_step_79 (hB.2.1) ?_
        refine j_aload_n dX6_step_82 rfl rfl ?_
        refine gI6_25 rfl dX6_step_83 ?_
        rw [m4]
        refine j_bald rfl (inT (show ln 1 = 1100 from rfl) (show (tA B n p) < 1100 by omega) (by decide)) dX6_step_86 ?_
        rw [nI_clamp (by omega), f2 1 (by decide), hb1.1]
        refine cS6_107 (d1 := 1) dX6_step_87 (by decide) (Nat.le_of_ble_eq_true rfl) ?_
        refine c_isLetter hb1.2 ?_
        refine j_if_eq (tgt := 100) dX6_step_90 (by decide) (fun h90 => ?_) (fun h90 => ?_)
        · rw [bN_eq0] at h90
          refine j_aload_n dX6_step_100 rfl rfl ?_
          refine gR6_18 rfl dX6_step_101 (hB.2.1) ?_
          refine j_aload_n dX6_step_104 rfl rfl ?_
          refine gI6_25 rfl dX6_step_105 ?_
          rw [m4]
          refine j_bald rfl (inT (show ln 1 = 1100 from rfl) (show (tA B n p) < 1100 by omega) (by decide)) dX6_step_108 ?_
          rw [nI_clamp (by omega), f2 1 (by decide), hb1.1]
          refine cS6_114 (d1 := 1) dX6_step_109 (by decide) (Nat.le_of_ble_eq_true rfl) ?_
          refine c_isDigit hb1.2 ?_
          refine j_if_eq (tgt := 122) dX6_step_112 (by decide) (fun h112 => ?_) (fun h112 => ?_)
          · rw [bN_eq0] at h112
            have eE : tE B n p = (tA B n p) + 1 := by unfold tE; rw [if_neg (by omega), if_neg (by simp [h90]), if_neg (by simp [h112])]
            have eH : tH B n p = 0 := by unfold tH; rw [if_neg (by omega), if_neg (by simp [h90]), if_neg (by simp [h112])]
            refine j_aload_n dX6_step_122 rfl rfl ?_
            refine j_aload_n dX6_step_123 rfl rfl ?_
            refine gR6_18 rfl dX6_step_124 (hB.2.1) ?_
            refine j_aload_n dX6_step_127 rfl rfl ?_
            refine gI6_25 rfl dX6_step_128 ?_
            rw [m4]
            refine j_bald rfl (inT (show ln 1 = 1100 from rfl) (show (tA B n p) < 1100 by omega) (by decide)) dX6_step_131 ?_
            rw [nI_clamp (by omega), f2 1 (by decide), hb1.1]
            refine j_bipush (v := 59) dX6_step_132 (by decide) ?_
            refine j_icmp_ne (tgt := 141) dX6_step_134 (by decide) (fun h134 => ?_) (fun h134 => ?_)
            · have h59 : ¬ B (tA B n p) = 59 := fun q => h134 ((sxq59 hb1.2).mpr q)
              have eS : tS B n p = 4 := by unfold tS; rw [if_neg (by omega), if_neg (by simp [h90]), if_neg (by simp [h112]), if_neg h59]
              refine j_iconst (v := 4) dX6_step_141 (by decide) ?_
              refine pI6_31 rfl dX6_step_142 ?_
              refine j_aload_n dX6_step_145 rfl rfl ?_
              refine j_aload_n dX6_step_146 rfl rfl ?_
              refine gI6_25 rfl dX6_step_147 ?_
              refine j_iconst (v := 1) dX6_step_150 (by decide) ?_
              refine j_iadd dX6_step_151 ?_
              rw [up_ne _ _ (by decide), m4, nI_1]
              refine pI6_28 rfl dX6_step_152 ?_
              refine j_vret rfl dX6_step_155 ?_
              refine hp _ _ ⟨fun b hb => ?_, fun b hb => ?_, ?_, ?_⟩ ?_ ⟨hpn, ?_, ?_, ?_, ?_⟩
              · simp only [up_off _ _ hb, f2 b hb]
              · simp only [upl_off _ _ hb]
              · simp [up, m3, hB.2.2.2.2.1]
              · simp [up, m13]
              · simp [up, m8]
              · simp [up, m4]
              · first | (rw [eE]; simp [up, m5]; done) | simp [up, m5]
              · first | (rw [eS]; simp [up]; done) | (rw [eS]; simp [up]; rfl) | (rw [eS, up_at])
              · first | (rw [eH, upl_at]; done) | (rw [eH, upl_upl, upl_at])
            · have h59 := (sxq59 hb1.2).mp h134
              have eS : tS B n p = 3 := by unfold tS; rw [if_neg (by omega), if_neg (by simp [h90]), if_neg (by simp [h112]), if_pos h59]
              refine j_iconst (v := 3) dX6_step_137 (by decide) ?_
              refine j_goto (tgt := 142) dX6_step_138 (by decide) ?_
              refine pI6_31 rfl dX6_step_142 ?_
              refine j_aload_n dX6_step_145 rfl rfl ?_
              refine j_aload_n dX6_step_146 rfl rfl ?_
              refine gI6_25 rfl dX6_step_147 ?_
              refine j_iconst (v := 1) dX6_step_150 (by decide) ?_
              refine j_iadd dX6_step_151 ?_
              rw [up_ne _ _ (by decide), m4, nI_1]
              refine pI6_28 rfl dX6_step_152 ?_
              refine j_vret rfl dX6_step_155 ?_
              refine hp _ _ ⟨fun b hb => ?_, fun b hb => ?_, ?_, ?_⟩ ?_ ⟨hpn, ?_, ?_, ?_, ?_⟩
              · simp only [up_off _ _ hb, f2 b hb]
              · simp only [upl_off _ _ hb]
              · simp [up, m3, hB.2.2.2.2.1]
              · simp [up, m13]
              · simp [up, m8]
              · simp [up, m4]
              · first | (rw [eE]; simp [up, m5]; done) | simp [up, m5]
              · first | (rw [eS]; simp [up]; done) | (rw [eS]; simp [up]; rfl) | (rw [eS, up_at])
              · first | (rw [eH, upl_at]; done) | (rw [eH, upl_upl, upl_at])
          · rw [bN_eq0, Bool.not_eq_false] at h112
            have eE : tE B n p = rq (fun k => isG (B k)) n (tA B n p) := by unfold tE; rw [if_neg (by omega), if_neg (by simp [h90]), if_pos h112]
            have eS : tS B n p = if tE B n p - (tA B n p) ≤ 3 then 2 else 4 := by unfold tS; rw [if_neg (by omega), if_neg (by simp [h90]), if_pos h112]
            have eH : tH B n p = hv 10 (gG B) (tA B n p) (tE B n p - (tA B n p)) := by unfold tH; rw [if_neg (by omega), if_neg (by simp [h90]), if_pos h112]
            refine j_aload_n dX6_step_115 rfl rfl ?_
            refine cV6_117 (d1 := 2) rfl dX6_step_116 (by decide) (Nat.le_of_ble_eq_true rfl) ?_
            refine c_stepWhole hB2 (a := (tA B n p)) hle m4 m5 (upl_at _ _ _ _) (e := tE B n p) eE ?_
            refine j_goto (tgt := 155) dX6_step_119 (by decide) ?_
            refine j_vret rfl dX6_step_155 ?_
            refine hp _ _ ⟨fun b hb => ?_, fun b hb => ?_, ?_, ?_⟩ ?_ ⟨hpn, ?_, ?_, ?_, ?_⟩
            · simp only [up_off _ _ hb, f2 b hb]
            · simp only [upl_off _ _ hb]
            · simp [up, m3, hB.2.2.2.2.1]
            · simp [up, m13]
            · simp [up, m8]
            · simp [up, m4]
            · first | (rw [eE]; simp [up, m5]; done) | simp [up, m5]
            · first | (rw [eS]; simp [up]; done) | (rw [eS]; simp [up]; rfl) | (rw [eS, up_at])
            · first | (rw [eH, upl_at]; done) | (rw [eH, upl_upl, upl_at])
        · rw [bN_eq0, Bool.not_eq_false] at h90
          have eE : tE B n p = rq (fun k => isL (B k)) n (tA B n p) := by unfold tE; rw [if_neg (by omega), if_pos h90]
          have eS : tS B n p = if tE B n p - (tA B n p) ≤ 8 then 1 else 4 := by unfold tS; rw [if_neg (by omega), if_pos h90]
          have eH : tH B n p = hv 32 (gL B) (tA B n p) (tE B n p - (tA B n p)) := by unfold tH; rw [if_neg (by omega), if_pos h90]
          refine j_aload_n dX6_step_93 rfl rfl ?_
          refine cV6_111 (d1 := 2) rfl dX6_step_94 (by decide) (Nat.le_of_ble_eq_true rfl) ?_
          refine c_stepWord hB2 (a := (tA B n p)) hle m4 m5 (upl_at _ _ _ _) (e := tE B n p) eE ?_
          refine j_goto (tgt := 155) dX6_step_97 (by decide) ?_
          refine j_vret rfl dX6_step_155 ?_
          refine hp _ _ ⟨fun b hb => ?_, fun b hb => ?_, ?_, ?_⟩ ?_ ⟨hpn, ?_, ?_, ?_, ?_⟩
          · simp only [up_off _ _ hb, f2 b hb]
          · simp only [upl_off _ _ hb]
          · simp [up, m3, hB.2.2.2.2.1]
          · simp [up, m13]
          · simp [up, m8]
          · simp [up, m4]
          · first | (rw [eE]; simp [up, m5]; done) | simp [up, m5]
          · first | (rw [eS]; simp [up]; done) | (rw [eS]; simp [up]; rfl) | (rw [eS, up_at])
          · first | (rw [eH, upl_at]; done) | (rw [eH, upl_upl, upl_at])
      · have hh : n ≤ (tA B n p) := by rw [nI_ltI (by omega) (by omega)] at h67; omega
        have eE : tE B n p = (tA B n p) := by unfold tE; rw [if_pos hh]
        have eS : tS B n p = 0 := by unfold tS; rw [if_pos hh]
        have eH : tH B n p = 0 := by unfold tH; rw [if_pos hh]
        refine j_aload_n dX6_step_70 rfl rfl ?_
        refine j_iconst (v := 0) dX6_step_71 (by decide) ?_
        refine pI6_31 rfl dX6_step_72 ?_
        refine j_goto (tgt := 155) dX6_step_75 (by decide) ?_
        refine j_vret rfl dX6_step_155 ?_
        refine hp _ _ ⟨fun b hb => ?_, fun b hb => ?_, ?_, ?_⟩ ?_ ⟨hpn, ?_, ?_, ?_, ?_⟩
        · simp only [up_off _ _ hb, f2 b hb]
        · simp only [upl_off _ _ hb]
        · simp [up, m3, hB.2.2.2.2.1]
        · simp [up, m13]
        · simp [up, m8]
        · simp [up, m4]
        · first | (rw [eE]; simp [up, m5]; done) | simp [up, m5]
        · first | (rw [eS]; simp [up]; done) | (rw [eS]; simp [up]; rfl) | (rw [eS, up_at])
        · first | (rw [eH, upl_at]; done) | (rw [eH, upl_upl, upl_at])
    refine j_aload_n dX6_step_8 rfl rfl ?_
    refine gI6_25 rfl dX6_step_9 ?_
    refine j_aload_n dX6_step_12 rfl rfl ?_
    refine gI6_22 rfl dX6_step_13 ?_
    rw [up_at, e3]
    refine j_icmp_ge (tgt := 46) dX6_step_16 (by decide) (fun h16 => ?_) (fun h16 => ?_)
    · exact hk
    · refine j_aload_n dX6_step_19 rfl rfl ?_
      refine gR6_18 rfl dX6_step_20 (hB.2.1) ?_
      refine j_aload_n dX6_step_23 rfl rfl ?_
      refine gI6_25 rfl dX6_step_24 ?_
      rw [up_at]
      have he : (tA B n p) < n := by rw [nI_leI (by omega) (by omega)] at h16; omega
      refine j_bald rfl (inT (show ln 1 = 1100 from rfl) (show (tA B n p) < 1100 by omega) (by decide)) dX6_step_27 ?_
      rw [nI_clamp (by omega), e1, (hB.2.2.2.1 (tA B n p) he).1]
      refine j_bipush (v := 32) dX6_step_28 (by decide) ?_
      refine j_icmp_ne (tgt := 46) dX6_step_30 (by decide) (fun h30 => ?_) (fun h30 => ?_)
      · exact hk
      · have := rq_stop (fun k => decide (B k = 32)) n p he
        exact absurd ((sxq (hB.2.2.2.1 _ he).2).mp h30) (of_decide_eq_false this)
theorem c_code {i : Nat} (hi : i < 24) (hp : post (some (.long (kc i))) mi ml mr dom) : CT G 6 0 0 yX6_code cX6_code 4 (some .long) [.ref (500 + i)] mi ml mr dom post := by
  have h8 := (str_ok i hi).2.1
  refine enter 3 (by decide) rfl rfl (fun X => ?_)
  refine j_lconst (v := 0) dX6_code_0 (by decide) ?_
  refine j_lstore_n (lv2 := [_, _, _, _]) dX6_code_1 rfl (by decide) rfl rfl ?_
  refine j_iconst (v := 0) dX6_code_2 (by decide) ?_
  refine j_istore_n (lv2 := [_, _, _, _]) dX6_code_3 rfl (by decide) rfl rfl ?_
  refine lq (n := strL.getD i 0) (H := fun j => J cX6_code 4 yX6_code.cls yX6_code.name (some .long) 6 G X post 0 0 mi ml mr dom 4 [some (.ref (500 + i)), some (.long (hv 32 (fun k => ((strB.getD i []).getD k 0 - 97 + 1).toInt64) 0 j)), none, some (.int (nI j))] []) ?_ (fun j hj ih => ?_)
  · refine j_iload_n dX6_code_4 rfl rfl ?_
    refine j_aload_n dX6_code_5 rfl rfl ?_
    refine cT6_124 hi dX6_code_6 (by decide) (Nat.le_of_ble_eq_true rfl) ?_
    refine j_icmp_ge (tgt := 36) dX6_code_9 (by decide) (fun _ => ?_) (fun h => absurd (nI_le (Nat.le_refl _) (by omega)) h)
    refine j_lload_n dX6_code_36 rfl rfl ?_
    exact j_lret rfl dX6_code_37 hp
  · refine j_iload_n dX6_code_4 rfl rfl ?_
    refine j_aload_n dX6_code_5 rfl rfl ?_
    refine cT6_124 hi dX6_code_6 (by decide) (Nat.le_of_ble_eq_true rfl) ?_
    refine j_icmp_ge (tgt := 36) dX6_code_9 (by decide) (fun h => absurd h (nI_ge hj (by omega))) (fun _ => ?_)
    refine j_ldc2 wd392 dX6_code_12 ?_
    refine j_lload_n dX6_code_15 rfl rfl ?_
    refine j_lmul dX6_code_16 ?_
    refine j_aload_n dX6_code_17 rfl rfl ?_
    refine j_iload_n dX6_code_18 rfl rfl ?_
    refine cT6_130 hi hj dX6_code_19 (by decide) (Nat.le_of_ble_eq_true rfl) ?_
    refine j_bipush (v := 97) dX6_code_22 (by decide) ?_
    refine j_isub dX6_code_24 ?_
    refine j_iconst (v := 1) dX6_code_25 (by decide) ?_
    refine j_iadd dX6_code_26 ?_
    refine j_i2l dX6_code_27 ?_
    refine j_ladd dX6_code_28 ?_
    refine j_lstore_n (lv2 := [_, _, _, _]) dX6_code_29 rfl (by decide) rfl rfl ?_
    refine j_iinc1 (lv2 := [_, _, _, _]) dX6_code_30 rfl (by decide) rfl rfl ?_
    refine j_goto (tgt := 4) dX6_code_33 (by decide) ?_
    rw [nI_1]
    rw [hv, Nat.zero_add] at ih
    exact ih
theorem tX6_fails {x : Int32}  (hp : post (some (.int 0)) (up (up mi 2 0 x) 2 1 ((up mi 2 0 x) 2 4)) ml mr dom) : CT G 1 0 0 yX6_fails cX6_fails 2 (some .boolean) [.ref 2, .int x] mi ml mr dom post := by
  refine enter 0 (by decide) rfl rfl (fun X => ?_)
  refine j_aload_n dX6_fails_0 rfl rfl ?_
  refine j_iload_n dX6_fails_1 rfl rfl ?_
  refine pI6_9 rfl dX6_fails_2 ?_
  refine j_aload_n dX6_fails_5 rfl rfl ?_
  refine j_aload_n dX6_fails_6 rfl rfl ?_
  refine gI6_25 rfl dX6_fails_7 ?_
  refine pI6_15 rfl dX6_fails_10 ?_
  refine j_iconst (v := 0) dX6_fails_13 (by decide) ?_
  refine j_zret rfl (by decide) dX6_fails_14 ?_
  exact hp
theorem c_fails {x : Nat} (hD : RD mi ml B n p) (hp : ∀ mi' ml', F2 mi ml mi' ml' → mi' 2 0 = nI x → mi' 2 1 = nI (tA B n p) → post (some (.int 0)) mi' ml' mr dom) : CT G 1 0 0 yX6_fails cX6_fails 2 (some .boolean) [.ref 2, .int (nI x)] mi ml mr dom post := by
  refine tX6_fails ?_
  refine hp _ _ ⟨fun b hb => ?_, fun b hb => rfl, ?_, ?_⟩ ?_ ?_
  · simp only [up_off _ _ hb]
  · simp [up]
  · simp [up]
  · simp [up]
  · simp [up, hD.2.1]
theorem c_lineSort (hB : RB mi ml mr B n) (hD : RD mi ml B n p) (hp : post (some (.int (if lsN B n p < 7 then nI (lsN B n p) else -1))) mi ml mr dom) : CT G 1 0 0 yX6_lineSort cX6_lineSort 2 (some .int) [.ref 2] mi ml mr dom post := by
  have h4 := tS_le B n p
  have hle : lsN B n p ≤ 7 := rq_le _ _ _ (by omega)
  refine enter 1 (by decide) rfl rfl (fun X => ?_)
  refine j_iconst (v := 0) dX6_lineSort_0 (by decide) ?_
  refine j_istore_n (lv2 := [_, _]) dX6_lineSort_1 rfl (by decide) rfl rfl ?_
  skip
  refine rq_loop (Q := (fun k => !(decide (tS B n p = 1) && decide (tH B n p = kc k)))) (n := 7) (p := 0) (H := fun i => J cX6_lineSort 2 yX6_lineSort.cls yX6_lineSort.name (some .int) 1 G X post 0 0 mi ml mr dom 2 [some (.ref 2), some (.int (nI i))] []) (fun i _ hi hq ih => ?_) ?_
  · skip
    refine j_iload_n dX6_lineSort_2 rfl rfl ?_
    refine j_bipush (v := 7) dX6_lineSort_3 (by decide) ?_
    refine j_icmp_ge (tgt := 38) dX6_lineSort_5 (by decide) (fun h5 => absurd h5 (nI_ge (b := 7) hi (by decide))) (fun _ => ?_)
    refine j_aload_n dX6_lineSort_8 rfl rfl ?_
    refine gI6_31 rfl dX6_lineSort_9 ?_
    refine j_iconst (v := 1) dX6_lineSort_12 (by decide) ?_
    rw [hD.2.2.2.1]
    refine j_icmp_ne (tgt := 32) dX6_lineSort_13 (by decide) (fun h13 => ?_) (fun h13 => ?_)
    · refine j_iinc1 (lv2 := [_, _]) dX6_lineSort_32 rfl (by decide) rfl rfl ?_
      refine j_goto (tgt := 2) dX6_lineSort_35 (by decide) ?_
      rw [nI_1]
      exact ih
    · refine j_aload_n dX6_lineSort_16 rfl rfl ?_
      refine gL6_34 rfl dX6_lineSort_17 ?_
      refine j_aload_n dX6_lineSort_20 rfl rfl ?_
      refine gR6_41 rfl dX6_lineSort_21 (x_lineWords hB.1) ?_
      refine j_iload_n dX6_lineSort_24 rfl rfl ?_
      refine j_lald rfl (inT (show ln 4 = 7 from rfl) (show i < 7 by omega) (by decide)) dX6_lineSort_25 ?_
      rw [nI_clamp (by omega), hB.2.2.2.2.2 i hi, hD.2.2.2.2]
      refine j_lcmp dX6_lineSort_26 ?_
      refine j_if_ne (tgt := 32) dX6_lineSort_27 (by decide) (fun h27 => ?_) (fun h27 => ?_)
      · refine j_iinc1 (lv2 := [_, _]) dX6_lineSort_32 rfl (by decide) rfl rfl ?_
        refine j_goto (tgt := 2) dX6_lineSort_35 (by decide) ?_
        rw [nI_1]
        exact ih
      · refine j_iload_n dX6_lineSort_30 rfl rfl ?_
        refine j_iret rfl dX6_lineSort_31 ?_
        exfalso
        rw [cmp0] at h27
        rw [show (1 : Int32) = nI 1 from rfl, nI_eq (by omega) (by decide)] at h13
        simp [h13, h27] at hq
  · show J cX6_lineSort 2 yX6_lineSort.cls yX6_lineSort.name (some .int) 1 G X post 0 0 mi ml mr dom 2 [some (.ref 2), some (.int (nI (lsN B n p)))] []
    refine j_iload_n dX6_lineSort_2 rfl rfl ?_
    refine j_bipush (v := 7) dX6_lineSort_3 (by decide) ?_
    refine j_icmp_ge (tgt := 38) dX6_lineSort_5 (by decide) (fun h5 => ?_) (fun h5 => ?_)
    · refine j_iconst (v := -1) dX6_lineSort_38 (by decide) ?_
      refine j_iret rfl dX6_lineSort_39 ?_
      first
        | (rw [if_pos hlt] at hp; exact hp)
        | (rw [show (7 : Int32) = nI 7 from rfl, nI_leI (by decide) (by omega)] at h5
           rw [if_neg (by omega)] at hp; exact hp)
    · refine j_aload_n dX6_lineSort_8 rfl rfl ?_
      refine gI6_31 rfl dX6_lineSort_9 ?_
      refine j_iconst (v := 1) dX6_lineSort_12 (by decide) ?_
      rw [hD.2.2.2.1]
      have hlt : lsN B n p < 7 := by rw [show (7 : Int32) = nI 7 from rfl, nI_leI (by decide) (by omega)] at h5; omega
      have hst : (!(decide (tS B n p = 1) && decide (tH B n p = kc (lsN B n p)))) = false := rq_stop (fun k => !(decide (tS B n p = 1) && decide (tH B n p = kc k))) 7 0 hlt
      rw [Bool.not_eq_false', Bool.and_eq_true, decide_eq_true_eq, decide_eq_true_eq] at hst
      refine j_icmp_ne (tgt := 32) dX6_lineSort_13 (by decide) (fun h13 => ?_) (fun h13 => ?_)
      · exfalso
        first
          | (rw [cmp0] at h27; exact h27 hst.2)
          | (exact h13 (by rw [hst.1]; rfl))
      · refine j_aload_n dX6_lineSort_16 rfl rfl ?_
        refine gL6_34 rfl dX6_lineSort_17 ?_
        refine j_aload_n dX6_lineSort_20 rfl rfl ?_
        refine gR6_41 rfl dX6_lineSort_21 (x_lineWords hB.1) ?_
        refine j_iload_n dX6_lineSort_24 rfl rfl ?_
        refine j_lald rfl (inT (show ln 4 = 7 from rfl) (show lsN B n p < 7 by omega) (by decide)) dX6_lineSort_25 ?_
        rw [nI_clamp (by omega), hB.2.2.2.2.2 _ hlt, hD.2.2.2.2]
        refine j_lcmp dX6_lineSort_26 ?_
        refine j_if_ne (tgt := 32) dX6_lineSort_27 (by decide) (fun h27 => ?_) (fun h27 => ?_)
        · exfalso
          first
            | (rw [cmp0] at h27; exact h27 hst.2)
            | (exact h13 (by rw [hst.1]; rfl))
        · refine j_iload_n dX6_lineSort_30 rfl rfl ?_
          refine j_iret rfl dX6_lineSort_31 ?_
          first
            | (rw [if_pos hlt] at hp; exact hp)
            | (rw [show (7 : Int32) = nI 7 from rfl, nI_leI (by decide) (by omega)] at h5
               rw [if_neg (by omega)] at hp; exact hp)
theorem c_isName (hB : RB mi ml mr B n) (hD : RD mi ml B n p) (hp : post (some (.int (nI (bN (decide (tS B n p = 1 ∧ lsN B n p = 7)))))) mi ml mr dom) : CT G 2 0 0 yX6_isName cX6_isName 1 (some .boolean) [.ref 2] mi ml mr dom post := by
  have h4 := tS_le B n p
  have hle : lsN B n p ≤ 7 := rq_le _ _ _ (by omega)
  refine enter 0 (by decide) rfl rfl (fun X => ?_)
  refine j_aload_n dX6_isName_0 rfl rfl ?_
  refine gI6_31 rfl dX6_isName_1 ?_
  refine j_iconst (v := 1) dX6_isName_4 (by decide) ?_
  rw [hD.2.2.2.1]
  refine j_icmp_ne (tgt := 20) dX6_isName_5 (by decide) (fun h5 => ?_) (fun h5 => ?_)
  · refine j_iconst (v := 0) dX6_isName_20 (by decide) ?_
    refine j_zret rfl (by decide) dX6_isName_21 ?_
    rw [show (1 : Int32) = nI 1 from rfl, nI_eq (by omega) (by decide)] at h5
    first
      | (rw [decide_eq_false (fun q => h5 q.1)] at hp; exact hp)
      | (have h7 : ¬ lsN B n p = 7 := fun q => h13 (by rw [q]; rfl)
         rw [decide_eq_false (fun q => h7 q.2)] at hp; exact hp)
      | (have h7 : lsN B n p = 7 := by
           by_cases q : lsN B n p < 7
           · rw [if_pos q] at h13
             exfalso
             have := congrArg Int32.toInt h13
             rw [nI_toInt (by omega)] at this
             exact absurd this (by rw [show (-1 : Int32).toInt = -1 from rfl]; omega)
           · omega
         rw [decide_eq_true ⟨h5, h7⟩] at hp; exact hp)
  · refine j_aload_n dX6_isName_8 rfl rfl ?_
    refine cV6_134 (d1 := 1) rfl dX6_isName_9 (by decide) (Nat.le_of_ble_eq_true rfl) ?_
    refine c_lineSort hB hD ?_
    refine j_iconst (v := -1) dX6_isName_12 (by decide) ?_
    refine j_icmp_ne (tgt := 20) dX6_isName_13 (by decide) (fun h13 => ?_) (fun h13 => ?_)
    · refine j_iconst (v := 0) dX6_isName_20 (by decide) ?_
      refine j_zret rfl (by decide) dX6_isName_21 ?_
      rw [show (1 : Int32) = nI 1 from rfl, nI_eq (by omega) (by decide)] at h5
      first
        | (rw [decide_eq_false (fun q => h5 q.1)] at hp; exact hp)
        | (have h7 : ¬ lsN B n p = 7 := fun q => h13 (by rw [q]; rfl)
           rw [decide_eq_false (fun q => h7 q.2)] at hp; exact hp)
        | (have h7 : lsN B n p = 7 := by
             by_cases q : lsN B n p < 7
             · rw [if_pos q] at h13
               exfalso
               have := congrArg Int32.toInt h13
               rw [nI_toInt (by omega)] at this
               exact absurd this (by rw [show (-1 : Int32).toInt = -1 from rfl]; omega)
             · omega
           rw [decide_eq_true ⟨h5, h7⟩] at hp; exact hp)
    · refine j_iconst (v := 1) dX6_isName_16 (by decide) ?_
      refine j_goto (tgt := 21) dX6_isName_17 (by decide) ?_
      refine j_zret rfl (by decide) dX6_isName_21 ?_
      rw [show (1 : Int32) = nI 1 from rfl, nI_eq (by omega) (by decide)] at h5
      first
        | (rw [decide_eq_false (fun q => h5 q.1)] at hp; exact hp)
        | (have h7 : ¬ lsN B n p = 7 := fun q => h13 (by rw [q]; rfl)
           rw [decide_eq_false (fun q => h7 q.2)] at hp; exact hp)
        | (have h7 : lsN B n p = 7 := by
             by_cases q : lsN B n p < 7
             · rw [if_pos q] at h13
               exfalso
               have := congrArg Int32.toInt h13
               rw [nI_toInt (by omega)] at this
               exact absurd this (by rw [show (-1 : Int32).toInt = -1 from rfl]; omega)
             · omega
           rw [decide_eq_true ⟨h5, h7⟩] at hp; exact hp)
/-- the names told, in the class's cells -/
def RNm (mi : MI) (ml : ML) (N : NS) : Prop := N.1 ≤ 17 ∧ mi 2 13 = nI N.1 ∧ ∀ k, k < N.1 → ml 5 k = N.2.1 k ∧ mi 6 k = nI (N.2.2.1 k) ∧ mi 7 k = nI (N.2.2.2 k)
theorem RNm.f2 {mi' : MI} {ml' : ML} {N : NS} (h : RNm mi ml N) (f : F2 mi ml mi' ml') : RNm mi' ml' N := ⟨h.1, f.2.2.2.trans h.2.1, by rw [f.1 6 (by decide), f.1 7 (by decide), f.2.1 5 (by decide)]; exact h.2.2⟩
theorem c_indexOfName (hB : RB mi ml mr B n) (hD : RD mi ml B n p) {N : NS} (hN : RNm mi ml N) (hp : post (some (.int (if (ixN N (tH B n p)) < N.1 then nI (ixN N (tH B n p)) else -1))) mi ml mr dom) : CT G 1 0 0 yX6_indexOfName cX6_indexOfName 2 (some .int) [.ref 2] mi ml mr dom post := by
  have h17 := hN.1
  have hle : (ixN N (tH B n p)) ≤ N.1 := rq_le _ _ _ (by omega)
  refine enter 1 (by decide) rfl rfl (fun X => ?_)
  refine j_iconst (v := 0) dX6_indexOfName_0 (by decide) ?_
  refine j_istore_n (lv2 := [_, _]) dX6_indexOfName_1 rfl (by decide) rfl rfl ?_
  skip
  refine rq_loop (Q := (fun k => !decide (N.2.1 k = tH B n p))) (n := N.1) (p := 0) (H := fun i => J cX6_indexOfName 2 yX6_indexOfName.cls yX6_indexOfName.name (some .int) 1 G X post 0 0 mi ml mr dom 2 [some (.ref 2), some (.int (nI i))] []) (fun i _ hi hq ih => ?_) ?_
  · skip
    refine j_iload_n dX6_indexOfName_2 rfl rfl ?_
    refine j_aload_n dX6_indexOfName_3 rfl rfl ?_
    refine gI6_55 rfl dX6_indexOfName_4 ?_
    rw [hN.2.1]
    refine j_icmp_ge (tgt := 32) dX6_indexOfName_7 (by decide) (fun h7 => absurd h7 (nI_ge hi (by omega))) (fun _ => ?_)
    refine j_aload_n dX6_indexOfName_10 rfl rfl ?_
    refine gR6_45 rfl dX6_indexOfName_11 (x_names hB.1) ?_
    refine j_iload_n dX6_indexOfName_14 rfl rfl ?_
    refine j_lald rfl (inT (show ln 5 = 17 from rfl) (show i < 17 by omega) (by decide)) dX6_indexOfName_15 ?_
    rw [nI_clamp (by omega), (hN.2.2 i hi).1]
    refine j_aload_n dX6_indexOfName_16 rfl rfl ?_
    refine gL6_34 rfl dX6_indexOfName_17 ?_
    rw [hD.2.2.2.2]
    refine j_lcmp dX6_indexOfName_20 ?_
    refine j_if_ne (tgt := 26) dX6_indexOfName_21 (by decide) (fun h21 => ?_) (fun h21 => ?_)
    · refine j_iinc1 (lv2 := [_, _]) dX6_indexOfName_26 rfl (by decide) rfl rfl ?_
      refine j_goto (tgt := 2) dX6_indexOfName_29 (by decide) ?_
      rw [nI_1]
      exact ih
    · refine j_iload_n dX6_indexOfName_24 rfl rfl ?_
      refine j_iret rfl dX6_indexOfName_25 ?_
      exfalso
      rw [cmp0] at h21
      simp [h21] at hq
  · show J cX6_indexOfName 2 yX6_indexOfName.cls yX6_indexOfName.name (some .int) 1 G X post 0 0 mi ml mr dom 2 [some (.ref 2), some (.int (nI (ixN N (tH B n p))))] []
    refine j_iload_n dX6_indexOfName_2 rfl rfl ?_
    refine j_aload_n dX6_indexOfName_3 rfl rfl ?_
    refine gI6_55 rfl dX6_indexOfName_4 ?_
    rw [hN.2.1]
    refine j_icmp_ge (tgt := 32) dX6_indexOfName_7 (by decide) (fun h7 => ?_) (fun h7 => ?_)
    · refine j_iconst (v := -1) dX6_indexOfName_32 (by decide) ?_
      refine j_iret rfl dX6_indexOfName_33 ?_
      first
        | (rw [if_pos hlt] at hp; exact hp)
        | (rw [nI_leI (by omega) (by omega)] at h7
           rw [if_neg (by omega)] at hp; exact hp)
    · have hlt : (ixN N (tH B n p)) < N.1 := by rw [nI_leI (by omega) (by omega)] at h7; omega
      have hst : (!decide (N.2.1 (ixN N (tH B n p)) = tH B n p)) = false := rq_stop (fun k => !decide (N.2.1 k = tH B n p)) N.1 0 hlt
      refine j_aload_n dX6_indexOfName_10 rfl rfl ?_
      refine gR6_45 rfl dX6_indexOfName_11 (x_names hB.1) ?_
      refine j_iload_n dX6_indexOfName_14 rfl rfl ?_
      refine j_lald rfl (inT (show ln 5 = 17 from rfl) (show (ixN N (tH B n p)) < 17 by omega) (by decide)) dX6_indexOfName_15 ?_
      rw [nI_clamp (by omega), (hN.2.2 _ hlt).1]
      refine j_aload_n dX6_indexOfName_16 rfl rfl ?_
      refine gL6_34 rfl dX6_indexOfName_17 ?_
      rw [hD.2.2.2.2]
      refine j_lcmp dX6_indexOfName_20 ?_
      refine j_if_ne (tgt := 26) dX6_indexOfName_21 (by decide) (fun h21 => ?_) (fun h21 => ?_)
      · exfalso
        rw [cmp0] at h21
        exact h21 (by simpa using hst)
      · refine j_iload_n dX6_indexOfName_24 rfl rfl ?_
        refine j_iret rfl dX6_indexOfName_25 ?_
        first
          | (rw [if_pos hlt] at hp; exact hp)
          | (rw [nI_leI (by omega) (by omega)] at h7
             rw [if_neg (by omega)] at hp; exact hp)
theorem c_spells (hD : RD mi ml B n p) {i : Nat} (hi : i < 24) (hp : post (some (.int (nI (bN (decide (tS B n p = 1 ∧ tH B n p = kc i)))))) mi ml mr dom) : CT G 7 0 0 yX6_spells cX6_spells 2 (some .boolean) [.ref 2, .ref (500 + i)] mi ml mr dom post := by
  have h4 := tS_le B n p
  refine enter 0 (by decide) rfl rfl (fun X => ?_)
  refine j_aload_n dX6_spells_0 rfl rfl ?_
  refine gI6_31 rfl dX6_spells_1 ?_
  refine j_iconst (v := 1) dX6_spells_4 (by decide) ?_
  rw [hD.2.2.2.1]
  refine j_icmp_ne (tgt := 24) dX6_spells_5 (by decide) (fun h5 => ?_) (fun h5 => ?_)
  · refine j_iconst (v := 0) dX6_spells_24 (by decide) ?_
    refine j_zret rfl (by decide) dX6_spells_25 ?_
    rw [show (1 : Int32) = nI 1 from rfl, nI_eq (by omega) (by decide)] at h5
    first
      | (rw [decide_eq_false (fun q => h5 q.1)] at hp; exact hp)
      | (rw [cmp0] at h17; rw [decide_eq_false (fun q => h17 q.2)] at hp; exact hp)
      | (rw [cmp0] at h17; rw [decide_eq_true ⟨h5, h17⟩] at hp; exact hp)
  · refine j_aload_n dX6_spells_8 rfl rfl ?_
    refine gL6_34 rfl dX6_spells_9 ?_
    rw [hD.2.2.2.2]
    refine j_aload_n dX6_spells_12 rfl rfl ?_
    refine cS6_60 (d1 := 6) dX6_spells_13 (by decide) (Nat.le_of_ble_eq_true rfl) ?_
    refine c_code hi ?_
    refine j_lcmp dX6_spells_16 ?_
    refine j_if_ne (tgt := 24) dX6_spells_17 (by decide) (fun h17 => ?_) (fun h17 => ?_)
    · refine j_iconst (v := 0) dX6_spells_24 (by decide) ?_
      refine j_zret rfl (by decide) dX6_spells_25 ?_
      rw [show (1 : Int32) = nI 1 from rfl, nI_eq (by omega) (by decide)] at h5
      first
        | (rw [decide_eq_false (fun q => h5 q.1)] at hp; exact hp)
        | (rw [cmp0] at h17; rw [decide_eq_false (fun q => h17 q.2)] at hp; exact hp)
        | (rw [cmp0] at h17; rw [decide_eq_true ⟨h5, h17⟩] at hp; exact hp)
    · refine j_iconst (v := 1) dX6_spells_20 (by decide) ?_
      refine j_goto (tgt := 25) dX6_spells_21 (by decide) ?_
      refine j_zret rfl (by decide) dX6_spells_25 ?_
      rw [show (1 : Int32) = nI 1 from rfl, nI_eq (by omega) (by decide)] at h5
      first
        | (rw [decide_eq_false (fun q => h5 q.1)] at hp; exact hp)
        | (rw [cmp0] at h17; rw [decide_eq_false (fun q => h17 q.2)] at hp; exact hp)
        | (rw [cmp0] at h17; rw [decide_eq_true ⟨h5, h17⟩] at hp; exact hp)
end C6b
