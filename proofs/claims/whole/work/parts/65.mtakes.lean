/-! the reference: what a child takes -/
def canC (t : TW) (v : Nat → Nat) (p g : Nat) : Bool := decide (g < t 0 6) && (decide (t 8 g ≤ str t p) && (decide (t 3 (6 * t 5 p + v (6 + g)) < 99999) && decide (t 3 (6 * v (6 + g) + t 10 g) < 99999)))
def bhF (t : TW) (v : Nat → Nat) (rest g : Nat) (B : Nat → Nat) (f b : Nat) : Nat := if rest.testBit f && decide (B f < 99999) then min b (B f + t 3 (6 * t 10 f + v (6 + g)) + t 3 (6 * v (6 + g) + t 10 g)) else b
def bh0 (t : TW) (v : Nat → Nat) (p rest g : Nat) : Nat := if rest = 0 then t 3 (6 * t 5 p + v (6 + g)) + t 3 (6 * v (6 + g) + t 10 g) else 99999
def bhS (t : TW) (v : Nat → Nat) (p rest g : Nat) (B : Nat → Nat) : Nat := if canC t v p g then fu (bhF t v rest g B) 5 (bh0 t v p rest g) else 99999
def bh (t : TW) (v : Nat → Nat) (p set g : Nat) : Nat := if h : set = 0 then 99999 else bhS t v p (set - 2 ^ g) g (fun f => bh t v p (set - 2 ^ g) f)
termination_by set
decreasing_by have := Nat.two_pow_pos g; omega
theorem bh_e {t : TW} {v : Nat → Nat} {p set g : Nat} (h : set ≠ 0) : bh t v p set g = bhS t v p (set - 2 ^ g) g (fun f => bh t v p (set - 2 ^ g) f) := by
  rw [bh, dif_neg h]
def tkF (t : TW) (v : Nat → Nat) (p set g b : Nat) : Nat := if set.testBit g then min b (bh t v p set g) else b
def tk (t : TW) (v : Nat → Nat) (p set : Nat) : Nat := if set = 0 then 0 else fu (tkF t v p set) 5 99999
section TK0
variable {t : TW} {v : Nat → Nat} {p : Nat}
theorem canC_t {g : Nat} (h : canC t v p g = true) : g < t 0 6 ∧ t 8 g ≤ str t p ∧ t 3 (6 * t 5 p + v (6 + g)) < 99999 ∧ t 3 (6 * v (6 + g) + t 10 g) < 99999 := by
  unfold canC at h
  rw [Bool.and_eq_true, Bool.and_eq_true, Bool.and_eq_true, decide_eq_true_eq, decide_eq_true_eq, decide_eq_true_eq, decide_eq_true_eq] at h
  exact h
theorem canC_i {g : Nat} (h1 : g < t 0 6) (h2 : t 8 g ≤ str t p) (h3 : t 3 (6 * t 5 p + v (6 + g)) < 99999) (h4 : t 3 (6 * v (6 + g) + t 10 g) < 99999) : canC t v p g = true := by
  unfold canC
  rw [decide_eq_true h1, decide_eq_true h2, decide_eq_true h3, decide_eq_true h4]; rfl
theorem bhF_dn {rest g : Nat} {B : Nat → Nat} (f b : Nat) : bhF t v rest g B f b ≤ b := by unfold bhF; split; exact Nat.min_le_left _ _; exact Nat.le_refl _
theorem bhS_le (hg : GB t) (rest g : Nat) (B : Nat → Nat) : bhS t v p rest g B ≤ 199998 := by
  unfold bhS; split
  · refine Nat.le_trans (fu_le0 (fun f b => bhF_dn f b) 5 _) ?_
    unfold bh0
    have := hg 3 (6 * t 5 p + v (6 + g))
    have := hg 3 (6 * v (6 + g) + t 10 g)
    split <;> omega
  · omega
theorem bh_le (hg : GB t) (set g : Nat) : bh t v p set g ≤ 199998 := by
  rw [bh]; split
  · omega
  · exact bhS_le hg _ _ _
theorem bh_can {set g : Nat} (h : bh t v p set g < 99999) : set ≠ 0 ∧ canC t v p g = true := by
  rw [bh] at h; split at h
  · omega
  · next q =>
    unfold bhS at h; split at h
    · next c => exact ⟨q, c⟩
    · omega
theorem tkF_dn {set : Nat} (g b : Nat) : tkF t v p set g b ≤ b := by unfold tkF; split; exact Nat.min_le_left _ _; exact Nat.le_refl _
theorem tk_le (set : Nat) : tk t v p set ≤ 99999 := by
  unfold tk; split
  · omega
  · exact fu_le0 (fun g b => tkF_dn g b) 5 _
end TK0
theorem bit_32 {s g : Nat} (h : s < 32) (hb : s.testBit g = true) : g < 5 := by
  rcases Nat.lt_or_ge g 5 with q | q
  · exact q
  · rw [Nat.testBit_lt_two_pow (Nat.lt_of_lt_of_le h (Nat.pow_le_pow_right (n := 2) (by decide) q : 2 ^ 5 ≤ 2 ^ g))] at hb; cases hb
section M13c
variable {G : GG} {post : PT} {mi : MI} {ml : ML} {mr : MR} {dom : List Nat} {M : Nat} {t : TW} {v : Nat → Nat}
theorem m_canCarry {p g : Nat} (hX : XM mr) (hM : MM M) (hY : XT mr M) (hTn : mr 1000 3 = some M) (hg : GB t) (hW : WT t) (hR : RM mi M t) (hV : VM mi t v) (h1 : p < t 0 5) (h2 : g < t 0 6) (hp : post (some (.int (nI (bN (canC t v p g))))) mi ml mr dom) : CT G 2 0 0 yX13_canCarry cX13_canCarry 3 (some .boolean) [.ref 1000, .int (nI p), .int (nI g)] mi ml mr dom post := by
  have w := hW.1
  have hge := hM.ge
  have q1 := hW.2.2.2.1 p h1
  have q2 := hW.2.2.2.2.1 g h2
  have q3 := (hV.2.1 g h2).2
  refine enter 0 (by decide) rfl rfl (fun X => ?_)
  refine j_aload_n dX13_canCarry_0 rfl rfl ?_
  refine gR13_335 rfl dX13_canCarry_1 hTn ?_
  refine j_iload_n dX13_canCarry_4 rfl rfl ?_
  refine cV13_358 (d1 := 1) (kM0 hM) dX13_canCarry_5 (by decide) (Nat.le_of_ble_eq_true rfl) ?_
  refine m_carries hM hY hg hW hR (by omega) ?_
  refine j_aload_n dX13_canCarry_8 rfl rfl ?_
  refine gR13_335 rfl dX13_canCarry_9 hTn ?_
  refine gR13_296 (kM0 hM) dX13_canCarry_12 (xM8 hY) ?_
  refine j_iload_n dX13_canCarry_15 rfl rfl ?_
  refine j_iald (kM8 hM) (inT (lM8 hM) (by show g < 5; omega) (by decide)) dX13_canCarry_16 ?_
  rw [nI_clamp (by omega), rM8 hR (by show g < 5; omega)]
  refine j_icmp_lt (tgt := 86) dX13_canCarry_17 (by decide) (fun h17 => ?_) (fun h17 => ?_)
  all_goals rw [nI_ltI (by have := str_le p hg; omega) (by have := hg 8 g; omega)] at h17
  · refine j_iconst (v := nI 0) dX13_canCarry_86 (by decide) ?_
    refine j_zret rfl (by decide) dX13_canCarry_87 ?_
    rw [show canC t v p g = false from ?_] at hp
    · exact hp
    cases hc : canC t v p g
    · rfl
    · have := canC_t hc; omega
  · refine j_aload_n dX13_canCarry_20 rfl rfl ?_
    refine gR13_335 rfl dX13_canCarry_21 hTn ?_
    refine j_aload_n dX13_canCarry_24 rfl rfl ?_
    refine gR13_335 rfl dX13_canCarry_25 hTn ?_
    refine gR13_281 (kM0 hM) dX13_canCarry_28 (xM5 hY) ?_
    refine j_iload_n dX13_canCarry_31 rfl rfl ?_
    refine j_iald (kM5 hM) (inT (lM5 hM) (by show p < 6; omega) (by decide)) dX13_canCarry_32 ?_
    rw [nI_clamp (by omega), rM5 hR (by show p < 6; omega)]
    refine j_aload_n dX13_canCarry_33 rfl rfl ?_
    refine gR13_17 rfl dX13_canCarry_34 (x1002 hX) ?_
    refine j_bipush (v := nI 6) dX13_canCarry_37 (by decide) ?_
    refine j_iload_n dX13_canCarry_39 rfl rfl ?_
    refine j_iadd dX13_canCarry_40 ?_
    rw [nI_add]
    refine j_iald rfl (inT (show ln 1002 = 13 from rfl) (by show 6 + g < 13; omega) (by decide)) dX13_canCarry_41 ?_
    rw [nI_clamp (by omega), (hV.2.1 g (by show g < t 0 6; omega)).1]
    refine cV13_410 (d1 := 1) (kM0 hM) dX13_canCarry_42 (by decide) (Nat.le_of_ble_eq_true rfl) ?_
    refine m_far hM hY hg hW hR (by have := hg 5 p; show t 5 p < 6; omega) (by have := (hV.2.1 g (by show g < t 0 6; omega)).2; have := hg 0 3; show v (6 + g) < 6; omega) ?_
    refine j_ldcw wd1913 dX13_canCarry_45 ?_
    rw [show (99999 : Int32) = nI 99999 from rfl]
    refine j_icmp_ge (tgt := 86) dX13_canCarry_48 (by decide) (fun h48 => ?_) (fun h48 => ?_)
    all_goals rw [nI_leI (by omega) (by have := hg 3 (6 * (t 5 p) + (v (6 + g))); omega)] at h48
    · refine j_iconst (v := nI 0) dX13_canCarry_86 (by decide) ?_
      refine j_zret rfl (by decide) dX13_canCarry_87 ?_
      rw [show canC t v p g = false from ?_] at hp
      · exact hp
      cases hc : canC t v p g
      · rfl
      · have := canC_t hc; omega
    · refine j_aload_n dX13_canCarry_51 rfl rfl ?_
      refine gR13_335 rfl dX13_canCarry_52 hTn ?_
      refine j_aload_n dX13_canCarry_55 rfl rfl ?_
      refine gR13_17 rfl dX13_canCarry_56 (x1002 hX) ?_
      refine j_bipush (v := nI 6) dX13_canCarry_59 (by decide) ?_
      refine j_iload_n dX13_canCarry_61 rfl rfl ?_
      refine j_iadd dX13_canCarry_62 ?_
      rw [nI_add]
      refine j_iald rfl (inT (show ln 1002 = 13 from rfl) (by show 6 + g < 13; omega) (by decide)) dX13_canCarry_63 ?_
      rw [nI_clamp (by omega), (hV.2.1 g (by show g < t 0 6; omega)).1]
      refine j_aload_n dX13_canCarry_64 rfl rfl ?_
      refine gR13_335 rfl dX13_canCarry_65 hTn ?_
      refine gR13_300 (kM0 hM) dX13_canCarry_68 (xM10 hY) ?_
      refine j_iload_n dX13_canCarry_71 rfl rfl ?_
      refine j_iald (kM10 hM) (inT (lM10 hM) (by show g < 5; omega) (by decide)) dX13_canCarry_72 ?_
      rw [nI_clamp (by omega), rM10 hR (by show g < 5; omega)]
      refine cV13_410 (d1 := 1) (kM0 hM) dX13_canCarry_73 (by decide) (Nat.le_of_ble_eq_true rfl) ?_
      refine m_far hM hY hg hW hR (by have := (hV.2.1 g (by show g < t 0 6; omega)).2; have := hg 0 3; show v (6 + g) < 6; omega) (by have := hg 10 g; show t 10 g < 6; omega) ?_
      refine j_ldcw wd1913 dX13_canCarry_76 ?_
      rw [show (99999 : Int32) = nI 99999 from rfl]
      refine j_icmp_ge (tgt := 86) dX13_canCarry_79 (by decide) (fun h79 => ?_) (fun h79 => ?_)
      all_goals rw [nI_leI (by omega) (by have := hg 3 (6 * (v (6 + g)) + (t 10 g)); omega)] at h79
      · refine j_iconst (v := nI 0) dX13_canCarry_86 (by decide) ?_
        refine j_zret rfl (by decide) dX13_canCarry_87 ?_
        rw [show canC t v p g = false from ?_] at hp
        · exact hp
        cases hc : canC t v p g
        · rfl
        · have := canC_t hc; omega
      · refine j_iconst (v := nI 1) dX13_canCarry_82 (by decide) ?_
        refine j_goto (tgt := 87) dX13_canCarry_83 (by decide) ?_
        refine j_zret rfl (by decide) dX13_canCarry_87 ?_
        rw [show canC t v p g = true from ?_] at hp
        · exact hp
        exact canC_i h2 (by omega) (by omega) (by omega)
theorem m_laysSet {p set : Nat} (hX : XM mr) (hM : MM M) (hY : XT mr M) (hTn : mr 1000 3 = some M) (hg : GB t) (hW : WT t) (hR : RM mi M t) (hV : VM mi t v) (h1 : p < t 0 5) (hs0 : 0 < set) (hs : set < 32) (hB : ∀ g, g < 5 → set.testBit g = true → ∀ f, f < 5 → (set - 2 ^ g).testBit f = true → mi 1005 (5 * (set - 2 ^ g) + f) = nI (bh t v p (set - 2 ^ g) f)) (hp : ∀ m : MI, off1 1005 m mi → (∀ x, x < 5 → set.testBit x = true → m 1005 (5 * set + x) = nI (bh t v p set x)) → (∀ j, (∀ x, x < 5 → j ≠ 5 * set + x) → m 1005 j = mi 1005 j) → post (some (.int (nI (tk t v p set)))) m ml mr dom) : CT G 3 0 0 yX13_laysSet cX13_laysSet 9 (some .int) [.ref 1000, .int (nI p), .int (nI set)] mi ml mr dom post := by
  have w := hW.1
  have hge := hM.ge
  have q1 := hW.2.2.2.1 p h1
  refine enter 6 (by decide) rfl rfl (fun X => ?_)
  refine j_ldcw wd1913 dX13_laysSet_0 ?_
  rw [show (99999 : Int32) = nI 99999 from rfl]
  refine j_istore_n (lv2 := [_, _, _, _, _, _, _, _, _]) dX13_laysSet_3 rfl (by decide) rfl rfl ?_
  refine j_iconst (v := nI 0) dX13_laysSet_4 (by decide) ?_
  refine j_istore (lv2 := [_, _, _, _, _, _, _, _, _]) dX13_laysSet_5 (by decide) rfl rfl ?_
  skip
  have key : ∀ m : MI, off1 1005 m mi → (∀ x, x < 0 → set.testBit x = true → m 1005 (5 * set + x) = nI (bh t v p set x)) → (∀ j, (∀ x, x < 5 → j ≠ 5 * set + x) → m 1005 j = mi 1005 j) → ∀ z5 z6 z7 z8 : Option Value, J cX13_laysSet 9 yX13_laysSet.cls yX13_laysSet.name (some .int) 3 G X post 0 0 m ml mr dom 7 [some (.ref 1000), some (.int (nI p)), some (.int (nI set)), some (.int (nI (fu (tkF t v p set) 0 99999))), some (.int (nI 0)), z5, z6, z7, z8] [] := by
    refine lq (n := 5) (H := fun g => ∀ m : MI, off1 1005 m mi → (∀ x, x < g → set.testBit x = true → m 1005 (5 * set + x) = nI (bh t v p set x)) → (∀ j, (∀ x, x < 5 → j ≠ 5 * set + x) → m 1005 j = mi 1005 j) → ∀ z5 z6 z7 z8 : Option Value, J cX13_laysSet 9 yX13_laysSet.cls yX13_laysSet.name (some .int) 3 G X post 0 0 m ml mr dom 7 [some (.ref 1000), some (.int (nI p)), some (.int (nI set)), some (.int (nI (fu (tkF t v p set) g 99999))), some (.int (nI g)), z5, z6, z7, z8] []) (fun m hm hv ho z5 z6 z7 z8 => ?_) (fun g hg5 ih m hm hv ho z5 z6 z7 z8 => ?_)
    · have hRm : RM m M t := RM_lo hM (fun n hn => by rw [hm n (by omega)]) hR
      have hVm : VM m t v := VM_off (by rw [hm 1002 (by decide)]) hV
      refine j_iload dX13_laysSet_7 rfl ?_
      refine j_iconst (v := nI 5) dX13_laysSet_9 (by decide) ?_
      refine j_icmp_ge (tgt := 246) dX13_laysSet_10 (by decide) (fun h10 => ?_) (fun h10 => by exfalso; rw [nI_leI (by omega) (by omega)] at h10; omega)
      refine j_iload_n dX13_laysSet_246 rfl rfl ?_
      refine j_iret rfl dX13_laysSet_247 ?_
      have c1 : tk t v p set = fu (tkF t v p set) 5 99999 := if_neg (by omega)
      rw [← c1]
      exact hp m hm (fun x hx hxb => hv x hx hxb) ho
    · have hRm : RM m M t := RM_lo hM (fun n hn => by rw [hm n (by omega)]) hR
      have hVm : VM m t v := VM_off (by rw [hm 1002 (by decide)]) hV
      refine j_iload dX13_laysSet_7 rfl ?_
      refine j_iconst (v := nI 5) dX13_laysSet_9 (by decide) ?_
      refine j_icmp_ge (tgt := 246) dX13_laysSet_10 (by decide) (fun h10 => by exfalso; rw [nI_leI (by omega) (by omega)] at h10; omega) (fun h10 => ?_)
      refine j_iload_n dX13_laysSet_13 rfl rfl ?_
      refine j_iload dX13_laysSet_14 rfl ?_
      refine cS13_400 (d1 := 1) dX13_laysSet_16 (by decide) (Nat.le_of_ble_eq_true rfl) ?_
      refine m_bit (by omega) (by omega) ?_
      refine j_if_ne (tgt := 25) dX13_laysSet_19 (by decide) (fun h19 => ?_) (fun h19 => ?_)
      all_goals rw [bN_eq0] at h19
      · have hbg := Bool.not_eq_false _ |>.mp h19
        have hge2 : 2 ^ g ≤ set := Nat.ge_two_pow_of_testBit hbg
        have hpg := Nat.two_pow_pos g
        refine j_iload_n dX13_laysSet_25 rfl rfl ?_
        refine j_iconst (v := nI 1) dX13_laysSet_26 (by decide) ?_
        refine j_iload dX13_laysSet_27 rfl ?_
        refine j_ishl dX13_laysSet_29 ?_
        refine j_iconst (v := -1) dX13_laysSet_30 (by decide) ?_
        refine j_ixor dX13_laysSet_31 ?_
        refine j_iand dX13_laysSet_32 ?_
        rw [bit_clN set (by omega) g (by omega) hbg]
        refine j_istore (lv2 := [_, _, _, _, _, _, _, _, _]) dX13_laysSet_33 (by decide) rfl rfl ?_
        refine j_ldcw wd1913 dX13_laysSet_35 ?_
        rw [show (99999 : Int32) = nI 99999 from rfl]
        refine j_istore (lv2 := [_, _, _, _, _, _, _, _, _]) dX13_laysSet_38 (by decide) rfl rfl ?_
        refine j_iload dX13_laysSet_40 rfl ?_
        refine j_aload_n dX13_laysSet_42 rfl rfl ?_
        refine gR13_335 rfl dX13_laysSet_43 hTn ?_
        refine gI13_288 (kM0 hM) dX13_laysSet_46 ?_
        rw [hRm.1 6 (by decide)]
        refine j_icmp_ge (tgt := 220) dX13_laysSet_49 (by decide) (fun h49 => ?_) (fun h49 => ?_)
        all_goals rw [nI_leI (by have := hg 0 6; omega) (by omega)] at h49
        · have c0 : bh t v p set g = 99999 := by rw [bh_e (by omega)]; unfold bhS; rw [if_neg (fun q => by have := canC_t q; omega)]
          rw [show nI (99999) = nI (bh t v p set g) by rw [c0]]
          refine j_aload_n dX13_laysSet_220 rfl rfl ?_
          refine gR13_27 rfl dX13_laysSet_221 (x1005 hX) ?_
          refine j_iconst (v := nI 5) dX13_laysSet_224 (by decide) ?_
          refine j_iload_n dX13_laysSet_225 rfl rfl ?_
          refine j_imul dX13_laysSet_226 ?_
          rw [pk_mul]
          refine j_iload dX13_laysSet_227 rfl ?_
          refine j_iadd dX13_laysSet_229 ?_
          rw [nI_add]
          refine j_iload dX13_laysSet_230 rfl ?_
          refine j_iast rfl (inT (show ln 1005 = 160 from rfl) (by show (5 * set) + g < 160; omega) (by decide)) dX13_laysSet_232 ?_
          rw [nI_clamp (by omega)]
          refine j_iload_n dX13_laysSet_233 rfl rfl ?_
          refine j_iload dX13_laysSet_234 rfl ?_
          refine cS13_349 (d1 := 1) dX13_laysSet_236 (by decide) (Nat.le_of_ble_eq_true rfl) ?_
          refine m_less (by have := fu_le0 (F := (tkF t v p set)) (fun g b => tkF_dn g b) g 99999; omega) (by have := bh_le (v := v) (p := p) hg set g; omega) ?_
          refine j_istore_n (lv2 := [_, _, _, _, _, _, _, _, _]) dX13_laysSet_239 rfl (by decide) rfl rfl ?_
          refine j_iinc1 (lv2 := [_, _, _, _, _, _, _, _, _]) dX13_laysSet_240 rfl (by decide) rfl rfl ?_
          rw [nI_1]
          refine j_goto (tgt := 7) dX13_laysSet_243 (by decide) ?_
          have c1 : fu (tkF t v p set) (g + 1) 99999 = min (fu (tkF t v p set) g 99999) (bh t v p set g) := if_pos hbg
          rw [c1] at ih
          refine ih _ (fun z hz => by rw [up_off _ _ hz]; exact hm z hz) (fun x hx hxb => ?_) (fun j hj => ?_) _ _ _ _
          · by_cases q : x = g
            · subst q; rw [up_at]
            · rw [up_ne _ _ (by omega)]; exact hv x (by omega) hxb
          · rw [up_ne _ _ (hj g (by omega))]; exact ho j hj
        · have hgo := hW.2.2.2.2.1 g (by omega)
          have hvo := (hV.2.1 g (by omega)).2
          refine j_aload_n dX13_laysSet_52 rfl rfl ?_
          refine j_iload_n dX13_laysSet_53 rfl rfl ?_
          refine j_iload dX13_laysSet_54 rfl ?_
          refine cV13_417 (d1 := 2) rfl dX13_laysSet_56 (by decide) (Nat.le_of_ble_eq_true rfl) ?_
          refine m_canCarry hX hM hY hTn hg hW hRm hVm (by omega) (by omega) ?_
          refine j_if_eq (tgt := 220) dX13_laysSet_59 (by decide) (fun h59 => ?_) (fun h59 => ?_)
          all_goals rw [bN_eq0] at h59
          · have c0 : bh t v p set g = 99999 := by rw [bh_e (by omega)]; unfold bhS; rw [if_neg (by rw [h59]; decide)]
            rw [show nI (99999) = nI (bh t v p set g) by rw [c0]]
            refine j_aload_n dX13_laysSet_220 rfl rfl ?_
            refine gR13_27 rfl dX13_laysSet_221 (x1005 hX) ?_
            refine j_iconst (v := nI 5) dX13_laysSet_224 (by decide) ?_
            refine j_iload_n dX13_laysSet_225 rfl rfl ?_
            refine j_imul dX13_laysSet_226 ?_
            rw [pk_mul]
            refine j_iload dX13_laysSet_227 rfl ?_
            refine j_iadd dX13_laysSet_229 ?_
            rw [nI_add]
            refine j_iload dX13_laysSet_230 rfl ?_
            refine j_iast rfl (inT (show ln 1005 = 160 from rfl) (by show (5 * set) + g < 160; omega) (by decide)) dX13_laysSet_232 ?_
            rw [nI_clamp (by omega)]
            refine j_iload_n dX13_laysSet_233 rfl rfl ?_
            refine j_iload dX13_laysSet_234 rfl ?_
            refine cS13_349 (d1 := 1) dX13_laysSet_236 (by decide) (Nat.le_of_ble_eq_true rfl) ?_
            refine m_less (by have := fu_le0 (F := (tkF t v p set)) (fun g b => tkF_dn g b) g 99999; omega) (by have := bh_le (v := v) (p := p) hg set g; omega) ?_
            refine j_istore_n (lv2 := [_, _, _, _, _, _, _, _, _]) dX13_laysSet_239 rfl (by decide) rfl rfl ?_
            refine j_iinc1 (lv2 := [_, _, _, _, _, _, _, _, _]) dX13_laysSet_240 rfl (by decide) rfl rfl ?_
            rw [nI_1]
            refine j_goto (tgt := 7) dX13_laysSet_243 (by decide) ?_
            have c1 : fu (tkF t v p set) (g + 1) 99999 = min (fu (tkF t v p set) g 99999) (bh t v p set g) := if_pos hbg
            rw [c1] at ih
            refine ih _ (fun z hz => by rw [up_off _ _ hz]; exact hm z hz) (fun x hx hxb => ?_) (fun j hj => ?_) _ _ _ _
            · by_cases q : x = g
              · subst q; rw [up_at]
              · rw [up_ne _ _ (by omega)]; exact hv x (by omega) hxb
            · rw [up_ne _ _ (hj g (by omega))]; exact ho j hj
          · refine j_aload_n dX13_laysSet_62 rfl rfl ?_
            refine gR13_335 rfl dX13_laysSet_63 hTn ?_
            refine j_aload_n dX13_laysSet_66 rfl rfl ?_
            refine gR13_17 rfl dX13_laysSet_67 (x1002 hX) ?_
            refine j_bipush (v := nI 6) dX13_laysSet_70 (by decide) ?_
            refine j_iload dX13_laysSet_72 rfl ?_
            refine j_iadd dX13_laysSet_74 ?_
            rw [nI_add]
            refine j_iald rfl (inT (show ln 1002 = 13 from rfl) (by show 6 + g < 13; omega) (by decide)) dX13_laysSet_75 ?_
            rw [nI_clamp (by omega), (hVm.2.1 g (by show g < t 0 6; omega)).1]
            refine j_aload_n dX13_laysSet_76 rfl rfl ?_
            refine gR13_335 rfl dX13_laysSet_77 hTn ?_
            refine gR13_300 (kM0 hM) dX13_laysSet_80 (xM10 hY) ?_
            refine j_iload dX13_laysSet_83 rfl ?_
            refine j_iald (kM10 hM) (inT (lM10 hM) (by show g < 5; omega) (by decide)) dX13_laysSet_85 ?_
            rw [nI_clamp (by omega), rM10 hRm (by show g < 5; omega)]
            refine cV13_410 (d1 := 1) (kM0 hM) dX13_laysSet_86 (by decide) (Nat.le_of_ble_eq_true rfl) ?_
            refine m_far hM hY hg hW hRm (by have := (hVm.2.1 g (by show g < t 0 6; omega)).2; have := hg 0 3; show v (6 + g) < 6; omega) (by have := hg 10 g; show t 10 g < 6; omega) ?_
            refine j_istore (lv2 := [_, _, _, _, _, _, _, _, _]) dX13_laysSet_89 (by decide) rfl rfl ?_
            refine j_iload dX13_laysSet_91 rfl ?_
            refine j_if_ne (tgt := 127) dX13_laysSet_93 (by decide) (fun h93 => ?_) (fun h93 => ?_)
            all_goals rw [show (0 : Int32) = nI 0 from rfl, nI_eq (by omega) (by decide)] at h93
            · refine j_iconst (v := nI 0) dX13_laysSet_127 (by decide) ?_
              refine j_istore (lv2 := [_, _, _, _, _, _, _, _, _]) dX13_laysSet_128 (by decide) rfl rfl ?_
              have cb : bh0 t v p (set - 2 ^ g) g = 99999 := if_neg h93
              rw [show nI (99999) = nI (bh0 t v p (set - 2 ^ g) g) by rw [cb]]
              refine fl (σ := Nat) (n := 5) (s0 := bh0 t v p (set - 2 ^ g) g) (I := fun b => b ≤ 199998) (F := (bhF t v (set - 2 ^ g) g (fun f => bh t v p (set - 2 ^ g) f))) (H := fun f b => J cX13_laysSet 9 yX13_laysSet.cls yX13_laysSet.name (some .int) 3 G X post 0 0 m ml mr dom 130 [some (.ref 1000), some (.int (nI p)), some (.int (nI set)), some (.int (nI (fu (tkF t v p set) g 99999))), some (.int (nI g)), some (.int (nI (set - 2 ^ g))), some (.int (nI b)), some (.int (nI (t 3 (6 * v (6 + g) + t 10 g)))), some (.int (nI f))] []) (by rw [cb]; have := hg 3 (6 * t 5 p + v (6 + g)); have := hg 3 (6 * v (6 + g) + t 10 g); omega) (fun f b hb => Nat.le_trans (bhF_dn f b) hb) (fun f hf5 b hb9 ihf => ?_) ?_
              · skip
                refine j_iload dX13_laysSet_130 rfl ?_
                refine j_iconst (v := nI 5) dX13_laysSet_132 (by decide) ?_
                refine j_icmp_ge (tgt := 220) dX13_laysSet_133 (by decide) (fun h133 => by exfalso; rw [nI_leI (by omega) (by omega)] at h133; omega) (fun h133 => ?_)
                refine j_iload dX13_laysSet_136 rfl ?_
                refine j_iload dX13_laysSet_138 rfl ?_
                refine cS13_400 (d1 := 1) dX13_laysSet_140 (by decide) (Nat.le_of_ble_eq_true rfl) ?_
                refine m_bit (by omega) (by omega) ?_
                refine j_if_eq (tgt := 214) dX13_laysSet_143 (by decide) (fun h143 => ?_) (fun h143 => ?_)
                all_goals rw [bN_eq0] at h143
                · refine j_iinc1 (lv2 := [_, _, _, _, _, _, _, _, _]) dX13_laysSet_214 rfl (by decide) rfl rfl ?_
                  rw [nI_1]
                  refine j_goto (tgt := 130) dX13_laysSet_217 (by decide) ?_
                  have c1 : (bhF t v (set - 2 ^ g) g (fun f => bh t v p (set - 2 ^ g) f)) f b = b := if_neg (fun q => by
                    rw [Bool.and_eq_true, decide_eq_true_eq] at q
                    first | (rw [q.1] at h143; cases h143) | (have q2 : bh t v p (set - 2 ^ g) f < 99999 := q.2; omega))
                  rw [c1] at ihf
                  exact ihf
                · refine j_aload_n dX13_laysSet_146 rfl rfl ?_
                  refine gR13_27 rfl dX13_laysSet_147 (x1005 hX) ?_
                  refine j_iconst (v := nI 5) dX13_laysSet_150 (by decide) ?_
                  refine j_iload dX13_laysSet_151 rfl ?_
                  refine j_imul dX13_laysSet_153 ?_
                  rw [pk_mul]
                  refine j_iload dX13_laysSet_154 rfl ?_
                  refine j_iadd dX13_laysSet_156 ?_
                  rw [nI_add]
                  refine j_iald rfl (inT (show ln 1005 = 160 from rfl) (by show (5 * (set - 2 ^ g)) + f < 160; omega) (by decide)) dX13_laysSet_157 ?_
                  rw [nI_clamp (by omega), ho _ (fun x hx => by omega), hB g hg5 hbg f hf5 (Bool.not_eq_false _ |>.mp h143)]
                  refine j_ldcw wd1913 dX13_laysSet_158 ?_
                  rw [show (99999 : Int32) = nI 99999 from rfl]
                  refine j_icmp_ge (tgt := 214) dX13_laysSet_161 (by decide) (fun h161 => ?_) (fun h161 => ?_)
                  all_goals rw [nI_leI (by omega) (by have := bh_le (v := v) (p := p) hg (set - 2 ^ g) f; omega)] at h161
                  · refine j_iinc1 (lv2 := [_, _, _, _, _, _, _, _, _]) dX13_laysSet_214 rfl (by decide) rfl rfl ?_
                    rw [nI_1]
                    refine j_goto (tgt := 130) dX13_laysSet_217 (by decide) ?_
                    have c1 : (bhF t v (set - 2 ^ g) g (fun f => bh t v p (set - 2 ^ g) f)) f b = b := if_neg (fun q => by
                      rw [Bool.and_eq_true, decide_eq_true_eq] at q
                      first | (rw [q.1] at h143; cases h143) | (have q2 : bh t v p (set - 2 ^ g) f < 99999 := q.2; omega))
                    rw [c1] at ihf
                    exact ihf
                  · have qf := canC_t (bh_can (show bh t v p (set - 2 ^ g) f < 99999 by omega)).2
                    have qt := hW.2.2.2.2.1 f qf.1
                    refine j_iload dX13_laysSet_164 rfl ?_
                    refine j_aload_n dX13_laysSet_166 rfl rfl ?_
                    refine gR13_27 rfl dX13_laysSet_167 (x1005 hX) ?_
                    refine j_iconst (v := nI 5) dX13_laysSet_170 (by decide) ?_
                    refine j_iload dX13_laysSet_171 rfl ?_
                    refine j_imul dX13_laysSet_173 ?_
                    rw [pk_mul]
                    refine j_iload dX13_laysSet_174 rfl ?_
                    refine j_iadd dX13_laysSet_176 ?_
                    rw [nI_add]
                    refine j_iald rfl (inT (show ln 1005 = 160 from rfl) (by show (5 * (set - 2 ^ g)) + f < 160; omega) (by decide)) dX13_laysSet_177 ?_
                    rw [nI_clamp (by omega), ho _ (fun x hx => by omega), hB g hg5 hbg f hf5 (Bool.not_eq_false _ |>.mp h143)]
                    refine j_aload_n dX13_laysSet_178 rfl rfl ?_
                    refine gR13_335 rfl dX13_laysSet_179 hTn ?_
                    refine j_aload_n dX13_laysSet_182 rfl rfl ?_
                    refine gR13_335 rfl dX13_laysSet_183 hTn ?_
                    refine gR13_300 (kM0 hM) dX13_laysSet_186 (xM10 hY) ?_
                    refine j_iload dX13_laysSet_189 rfl ?_
                    refine j_iald (kM10 hM) (inT (lM10 hM) (by show f < 5; omega) (by decide)) dX13_laysSet_191 ?_
                    rw [nI_clamp (by omega), rM10 hRm (by show f < 5; omega)]
                    refine j_aload_n dX13_laysSet_192 rfl rfl ?_
                    refine gR13_17 rfl dX13_laysSet_193 (x1002 hX) ?_
                    refine j_bipush (v := nI 6) dX13_laysSet_196 (by decide) ?_
                    refine j_iload dX13_laysSet_198 rfl ?_
                    refine j_iadd dX13_laysSet_200 ?_
                    rw [nI_add]
                    refine j_iald rfl (inT (show ln 1002 = 13 from rfl) (by show 6 + g < 13; omega) (by decide)) dX13_laysSet_201 ?_
                    rw [nI_clamp (by omega), (hVm.2.1 g (by show g < t 0 6; omega)).1]
                    refine cV13_410 (d1 := 1) (kM0 hM) dX13_laysSet_202 (by decide) (Nat.le_of_ble_eq_true rfl) ?_
                    refine m_far hM hY hg hW hRm (by have := hg 10 f; show t 10 f < 6; omega) (by have := (hVm.2.1 g (by show g < t 0 6; omega)).2; have := hg 0 3; show v (6 + g) < 6; omega) ?_
                    refine j_iadd dX13_laysSet_205 ?_
                    rw [nI_add]
                    refine j_iload dX13_laysSet_206 rfl ?_
                    refine j_iadd dX13_laysSet_208 ?_
                    rw [nI_add]
                    refine cS13_349 (d1 := 1) dX13_laysSet_209 (by decide) (Nat.le_of_ble_eq_true rfl) ?_
                    refine m_less (by have := hb9; omega) (by have := bh_le (v := v) (p := p) hg (set - 2 ^ g) f; have := hg 3 (6 * (t 10 f) + (v (6 + g))); have := hg 3 (6 * v (6 + g) + t 10 g); omega) ?_
                    refine j_istore (lv2 := [_, _, _, _, _, _, _, _, _]) dX13_laysSet_212 (by decide) rfl rfl ?_
                    refine j_iinc1 (lv2 := [_, _, _, _, _, _, _, _, _]) dX13_laysSet_214 rfl (by decide) rfl rfl ?_
                    rw [nI_1]
                    refine j_goto (tgt := 130) dX13_laysSet_217 (by decide) ?_
                    have c1 : (bhF t v (set - 2 ^ g) g (fun f => bh t v p (set - 2 ^ g) f)) f b = min b (bh t v p (set - 2 ^ g) f + t 3 (6 * t 10 f + v (6 + g)) + t 3 (6 * v (6 + g) + t 10 g)) := if_pos (by rw [Bool.not_eq_false _ |>.mp h143, decide_eq_true (show bh t v p (set - 2 ^ g) f < 99999 by omega)]; rfl)
                    rw [c1] at ihf
                    exact ihf
              · skip
                refine j_iload dX13_laysSet_130 rfl ?_
                refine j_iconst (v := nI 5) dX13_laysSet_132 (by decide) ?_
                refine j_icmp_ge (tgt := 220) dX13_laysSet_133 (by decide) (fun h133 => ?_) (fun h133 => by exfalso; rw [nI_leI (by omega) (by omega)] at h133; omega)
                have c0 : bh t v p set g = fu (bhF t v (set - 2 ^ g) g (fun f => bh t v p (set - 2 ^ g) f)) 5 (bh0 t v p (set - 2 ^ g) g) := by rw [bh_e (by omega)]; unfold bhS; rw [if_pos (Bool.not_eq_false _ |>.mp h59)]
                rw [show nI (fu (bhF t v (set - 2 ^ g) g (fun f => bh t v p (set - 2 ^ g) f)) 5 (bh0 t v p (set - 2 ^ g) g)) = nI (bh t v p set g) by rw [c0]]
                refine j_aload_n dX13_laysSet_220 rfl rfl ?_
                refine gR13_27 rfl dX13_laysSet_221 (x1005 hX) ?_
                refine j_iconst (v := nI 5) dX13_laysSet_224 (by decide) ?_
                refine j_iload_n dX13_laysSet_225 rfl rfl ?_
                refine j_imul dX13_laysSet_226 ?_
                rw [pk_mul]
                refine j_iload dX13_laysSet_227 rfl ?_
                refine j_iadd dX13_laysSet_229 ?_
                rw [nI_add]
                refine j_iload dX13_laysSet_230 rfl ?_
                refine j_iast rfl (inT (show ln 1005 = 160 from rfl) (by show (5 * set) + g < 160; omega) (by decide)) dX13_laysSet_232 ?_
                rw [nI_clamp (by omega)]
                refine j_iload_n dX13_laysSet_233 rfl rfl ?_
                refine j_iload dX13_laysSet_234 rfl ?_
                refine cS13_349 (d1 := 1) dX13_laysSet_236 (by decide) (Nat.le_of_ble_eq_true rfl) ?_
                refine m_less (by have := fu_le0 (F := (tkF t v p set)) (fun g b => tkF_dn g b) g 99999; omega) (by have := bh_le (v := v) (p := p) hg set g; omega) ?_
                refine j_istore_n (lv2 := [_, _, _, _, _, _, _, _, _]) dX13_laysSet_239 rfl (by decide) rfl rfl ?_
                refine j_iinc1 (lv2 := [_, _, _, _, _, _, _, _, _]) dX13_laysSet_240 rfl (by decide) rfl rfl ?_
                rw [nI_1]
                refine j_goto (tgt := 7) dX13_laysSet_243 (by decide) ?_
                have c1 : fu (tkF t v p set) (g + 1) 99999 = min (fu (tkF t v p set) g 99999) (bh t v p set g) := if_pos hbg
                rw [c1] at ih
                refine ih _ (fun z hz => by rw [up_off _ _ hz]; exact hm z hz) (fun x hx hxb => ?_) (fun j hj => ?_) _ _ _ _
                · by_cases q : x = g
                  · subst q; rw [up_at]
                  · rw [up_ne _ _ (by omega)]; exact hv x (by omega) hxb
                · rw [up_ne _ _ (hj g (by omega))]; exact ho j hj
            · refine j_aload_n dX13_laysSet_96 rfl rfl ?_
              refine gR13_335 rfl dX13_laysSet_97 hTn ?_
              refine j_aload_n dX13_laysSet_100 rfl rfl ?_
              refine gR13_335 rfl dX13_laysSet_101 hTn ?_
              refine gR13_281 (kM0 hM) dX13_laysSet_104 (xM5 hY) ?_
              refine j_iload_n dX13_laysSet_107 rfl rfl ?_
              refine j_iald (kM5 hM) (inT (lM5 hM) (by show p < 6; omega) (by decide)) dX13_laysSet_108 ?_
              rw [nI_clamp (by omega), rM5 hRm (by show p < 6; omega)]
              refine j_aload_n dX13_laysSet_109 rfl rfl ?_
              refine gR13_17 rfl dX13_laysSet_110 (x1002 hX) ?_
              refine j_bipush (v := nI 6) dX13_laysSet_113 (by decide) ?_
              refine j_iload dX13_laysSet_115 rfl ?_
              refine j_iadd dX13_laysSet_117 ?_
              rw [nI_add]
              refine j_iald rfl (inT (show ln 1002 = 13 from rfl) (by show 6 + g < 13; omega) (by decide)) dX13_laysSet_118 ?_
              rw [nI_clamp (by omega), (hVm.2.1 g (by show g < t 0 6; omega)).1]
              refine cV13_410 (d1 := 1) (kM0 hM) dX13_laysSet_119 (by decide) (Nat.le_of_ble_eq_true rfl) ?_
              refine m_far hM hY hg hW hRm (by have := hg 5 p; show t 5 p < 6; omega) (by have := (hVm.2.1 g (by show g < t 0 6; omega)).2; have := hg 0 3; show v (6 + g) < 6; omega) ?_
              refine j_iload dX13_laysSet_122 rfl ?_
              refine j_iadd dX13_laysSet_124 ?_
              rw [nI_add]
              refine j_istore (lv2 := [_, _, _, _, _, _, _, _, _]) dX13_laysSet_125 (by decide) rfl rfl ?_
              refine j_iconst (v := nI 0) dX13_laysSet_127 (by decide) ?_
              refine j_istore (lv2 := [_, _, _, _, _, _, _, _, _]) dX13_laysSet_128 (by decide) rfl rfl ?_
              have cb : bh0 t v p (set - 2 ^ g) g = (t 3 (6 * (t 5 p) + (v (6 + g)))) + (t 3 (6 * (v (6 + g)) + (t 10 g))) := if_pos h93
              rw [show nI ((t 3 (6 * (t 5 p) + (v (6 + g)))) + (t 3 (6 * (v (6 + g)) + (t 10 g)))) = nI (bh0 t v p (set - 2 ^ g) g) by rw [cb]]
              refine fl (σ := Nat) (n := 5) (s0 := bh0 t v p (set - 2 ^ g) g) (I := fun b => b ≤ 199998) (F := (bhF t v (set - 2 ^ g) g (fun f => bh t v p (set - 2 ^ g) f))) (H := fun f b => J cX13_laysSet 9 yX13_laysSet.cls yX13_laysSet.name (some .int) 3 G X post 0 0 m ml mr dom 130 [some (.ref 1000), some (.int (nI p)), some (.int (nI set)), some (.int (nI (fu (tkF t v p set) g 99999))), some (.int (nI g)), some (.int (nI (set - 2 ^ g))), some (.int (nI b)), some (.int (nI (t 3 (6 * v (6 + g) + t 10 g)))), some (.int (nI f))] []) (by rw [cb]; have := hg 3 (6 * t 5 p + v (6 + g)); have := hg 3 (6 * v (6 + g) + t 10 g); omega) (fun f b hb => Nat.le_trans (bhF_dn f b) hb) (fun f hf5 b hb9 ihf => ?_) ?_
              · skip
                refine j_iload dX13_laysSet_130 rfl ?_
                refine j_iconst (v := nI 5) dX13_laysSet_132 (by decide) ?_
                refine j_icmp_ge (tgt := 220) dX13_laysSet_133 (by decide) (fun h133 => by exfalso; rw [nI_leI (by omega) (by omega)] at h133; omega) (fun h133 => ?_)
                refine j_iload dX13_laysSet_136 rfl ?_
                refine j_iload dX13_laysSet_138 rfl ?_
                refine cS13_400 (d1 := 1) dX13_laysSet_140 (by decide) (Nat.le_of_ble_eq_true rfl) ?_
                refine m_bit (by omega) (by omega) ?_
                refine j_if_eq (tgt := 214) dX13_laysSet_143 (by decide) (fun h143 => ?_) (fun h143 => ?_)
                all_goals rw [bN_eq0] at h143
                · refine j_iinc1 (lv2 := [_, _, _, _, _, _, _, _, _]) dX13_laysSet_214 rfl (by decide) rfl rfl ?_
                  rw [nI_1]
                  refine j_goto (tgt := 130) dX13_laysSet_217 (by decide) ?_
                  have c1 : (bhF t v (set - 2 ^ g) g (fun f => bh t v p (set - 2 ^ g) f)) f b = b := if_neg (fun q => by
                    rw [Bool.and_eq_true, decide_eq_true_eq] at q
                    first | (rw [q.1] at h143; cases h143) | (have q2 : bh t v p (set - 2 ^ g) f < 99999 := q.2; omega))
                  rw [c1] at ihf
                  exact ihf
                · refine j_aload_n dX13_laysSet_146 rfl rfl ?_
                  refine gR13_27 rfl dX13_laysSet_147 (x1005 hX) ?_
                  refine j_iconst (v := nI 5) dX13_laysSet_150 (by decide) ?_
                  refine j_iload dX13_laysSet_151 rfl ?_
                  refine j_imul dX13_laysSet_153 ?_
                  rw [pk_mul]
                  refine j_iload dX13_laysSet_154 rfl ?_
                  refine j_iadd dX13_laysSet_156 ?_
                  rw [nI_add]
                  refine j_iald rfl (inT (show ln 1005 = 160 from rfl) (by show (5 * (set - 2 ^ g)) + f < 160; omega) (by decide)) dX13_laysSet_157 ?_
                  rw [nI_clamp (by omega), ho _ (fun x hx => by omega), hB g hg5 hbg f hf5 (Bool.not_eq_false _ |>.mp h143)]
                  refine j_ldcw wd1913 dX13_laysSet_158 ?_
                  rw [show (99999 : Int32) = nI 99999 from rfl]
                  refine j_icmp_ge (tgt := 214) dX13_laysSet_161 (by decide) (fun h161 => ?_) (fun h161 => ?_)
                  all_goals rw [nI_leI (by omega) (by have := bh_le (v := v) (p := p) hg (set - 2 ^ g) f; omega)] at h161
                  · refine j_iinc1 (lv2 := [_, _, _, _, _, _, _, _, _]) dX13_laysSet_214 rfl (by decide) rfl rfl ?_
                    rw [nI_1]
                    refine j_goto (tgt := 130) dX13_laysSet_217 (by decide) ?_
                    have c1 : (bhF t v (set - 2 ^ g) g (fun f => bh t v p (set - 2 ^ g) f)) f b = b := if_neg (fun q => by
                      rw [Bool.and_eq_true, decide_eq_true_eq] at q
                      first | (rw [q.1] at h143; cases h143) | (have q2 : bh t v p (set - 2 ^ g) f < 99999 := q.2; omega))
                    rw [c1] at ihf
                    exact ihf
                  · have qf := canC_t (bh_can (show bh t v p (set - 2 ^ g) f < 99999 by omega)).2
                    have qt := hW.2.2.2.2.1 f qf.1
                    refine j_iload dX13_laysSet_164 rfl ?_
                    refine j_aload_n dX13_laysSet_166 rfl rfl ?_
                    refine gR13_27 rfl dX13_laysSet_167 (x1005 hX) ?_
                    refine j_iconst (v := nI 5) dX13_laysSet_170 (by decide) ?_
                    refine j_iload dX13_laysSet_171 rfl ?_
                    refine j_imul dX13_laysSet_173 ?_
                    rw [pk_mul]
                    refine j_iload dX13_laysSet_174 rfl ?_
                    refine j_iadd dX13_laysSet_176 ?_
                    rw [nI_add]
                    refine j_iald rfl (inT (show ln 1005 = 160 from rfl) (by show (5 * (set - 2 ^ g)) + f < 160; omega) (by decide)) dX13_laysSet_177 ?_
                    rw [nI_clamp (by omega), ho _ (fun x hx => by omega), hB g hg5 hbg f hf5 (Bool.not_eq_false _ |>.mp h143)]
                    refine j_aload_n dX13_laysSet_178 rfl rfl ?_
                    refine gR13_335 rfl dX13_laysSet_179 hTn ?_
                    refine j_aload_n dX13_laysSet_182 rfl rfl ?_
                    refine gR13_335 rfl dX13_laysSet_183 hTn ?_
                    refine gR13_300 (kM0 hM) dX13_laysSet_186 (xM10 hY) ?_
                    refine j_iload dX13_laysSet_189 rfl ?_
                    refine j_iald (kM10 hM) (inT (lM10 hM) (by show f < 5; omega) (by decide)) dX13_laysSet_191 ?_
                    rw [nI_clamp (by omega), rM10 hRm (by show f < 5; omega)]
                    refine j_aload_n dX13_laysSet_192 rfl rfl ?_
                    refine gR13_17 rfl dX13_laysSet_193 (x1002 hX) ?_
                    refine j_bipush (v := nI 6) dX13_laysSet_196 (by decide) ?_
                    refine j_iload dX13_laysSet_198 rfl ?_
                    refine j_iadd dX13_laysSet_200 ?_
                    rw [nI_add]
                    refine j_iald rfl (inT (show ln 1002 = 13 from rfl) (by show 6 + g < 13; omega) (by decide)) dX13_laysSet_201 ?_
                    rw [nI_clamp (by omega), (hVm.2.1 g (by show g < t 0 6; omega)).1]
                    refine cV13_410 (d1 := 1) (kM0 hM) dX13_laysSet_202 (by decide) (Nat.le_of_ble_eq_true rfl) ?_
                    refine m_far hM hY hg hW hRm (by have := hg 10 f; show t 10 f < 6; omega) (by have := (hVm.2.1 g (by show g < t 0 6; omega)).2; have := hg 0 3; show v (6 + g) < 6; omega) ?_
                    refine j_iadd dX13_laysSet_205 ?_
                    rw [nI_add]
                    refine j_iload dX13_laysSet_206 rfl ?_
                    refine j_iadd dX13_laysSet_208 ?_
                    rw [nI_add]
                    refine cS13_349 (d1 := 1) dX13_laysSet_209 (by decide) (Nat.le_of_ble_eq_true rfl) ?_
                    refine m_less (by have := hb9; omega) (by have := bh_le (v := v) (p := p) hg (set - 2 ^ g) f; have := hg 3 (6 * (t 10 f) + (v (6 + g))); have := hg 3 (6 * v (6 + g) + t 10 g); omega) ?_
                    refine j_istore (lv2 := [_, _, _, _, _, _, _, _, _]) dX13_laysSet_212 (by decide) rfl rfl ?_
                    refine j_iinc1 (lv2 := [_, _, _, _, _, _, _, _, _]) dX13_laysSet_214 rfl (by decide) rfl rfl ?_
                    rw [nI_1]
                    refine j_goto (tgt := 130) dX13_laysSet_217 (by decide) ?_
                    have c1 : (bhF t v (set - 2 ^ g) g (fun f => bh t v p (set - 2 ^ g) f)) f b = min b (bh t v p (set - 2 ^ g) f + t 3 (6 * t 10 f + v (6 + g)) + t 3 (6 * v (6 + g) + t 10 g)) := if_pos (by rw [Bool.not_eq_false _ |>.mp h143, decide_eq_true (show bh t v p (set - 2 ^ g) f < 99999 by omega)]; rfl)
                    rw [c1] at ihf
                    exact ihf
              · skip
                refine j_iload dX13_laysSet_130 rfl ?_
                refine j_iconst (v := nI 5) dX13_laysSet_132 (by decide) ?_
                refine j_icmp_ge (tgt := 220) dX13_laysSet_133 (by decide) (fun h133 => ?_) (fun h133 => by exfalso; rw [nI_leI (by omega) (by omega)] at h133; omega)
                have c0 : bh t v p set g = fu (bhF t v (set - 2 ^ g) g (fun f => bh t v p (set - 2 ^ g) f)) 5 (bh0 t v p (set - 2 ^ g) g) := by rw [bh_e (by omega)]; unfold bhS; rw [if_pos (Bool.not_eq_false _ |>.mp h59)]
                rw [show nI (fu (bhF t v (set - 2 ^ g) g (fun f => bh t v p (set - 2 ^ g) f)) 5 (bh0 t v p (set - 2 ^ g) g)) = nI (bh t v p set g) by rw [c0]]
                refine j_aload_n dX13_laysSet_220 rfl rfl ?_
                refine gR13_27 rfl dX13_laysSet_221 (x1005 hX) ?_
                refine j_iconst (v := nI 5) dX13_laysSet_224 (by decide) ?_
                refine j_iload_n dX13_laysSet_225 rfl rfl ?_
                refine j_imul dX13_laysSet_226 ?_
                rw [pk_mul]
                refine j_iload dX13_laysSet_227 rfl ?_
                refine j_iadd dX13_laysSet_229 ?_
                rw [nI_add]
                refine j_iload dX13_laysSet_230 rfl ?_
                refine j_iast rfl (inT (show ln 1005 = 160 from rfl) (by show (5 * set) + g < 160; omega) (by decide)) dX13_laysSet_232 ?_
                rw [nI_clamp (by omega)]
                refine j_iload_n dX13_laysSet_233 rfl rfl ?_
                refine j_iload dX13_laysSet_234 rfl ?_
                refine cS13_349 (d1 := 1) dX13_laysSet_236 (by decide) (Nat.le_of_ble_eq_true rfl) ?_
                refine m_less (by have := fu_le0 (F := (tkF t v p set)) (fun g b => tkF_dn g b) g 99999; omega) (by have := bh_le (v := v) (p := p) hg set g; omega) ?_
                refine j_istore_n (lv2 := [_, _, _, _, _, _, _, _, _]) dX13_laysSet_239 rfl (by decide) rfl rfl ?_
                refine j_iinc1 (lv2 := [_, _, _, _, _, _, _, _, _]) dX13_laysSet_240 rfl (by decide) rfl rfl ?_
                rw [nI_1]
                refine j_goto (tgt := 7) dX13_laysSet_243 (by decide) ?_
                have c1 : fu (tkF t v p set) (g + 1) 99999 = min (fu (tkF t v p set) g 99999) (bh t v p set g) := if_pos hbg
                rw [c1] at ih
                refine ih _ (fun z hz => by rw [up_off _ _ hz]; exact hm z hz) (fun x hx hxb => ?_) (fun j hj => ?_) _ _ _ _
                · by_cases q : x = g
                  · subst q; rw [up_at]
                  · rw [up_ne _ _ (by omega)]; exact hv x (by omega) hxb
                · rw [up_ne _ _ (hj g (by omega))]; exact ho j hj
      · refine j_goto (tgt := 240) dX13_laysSet_22 (by decide) ?_
        refine j_iinc1 (lv2 := [_, _, _, _, _, _, _, _, _]) dX13_laysSet_240 rfl (by decide) rfl rfl ?_
        rw [nI_1]
        refine j_goto (tgt := 7) dX13_laysSet_243 (by decide) ?_
        have c1 : fu (tkF t v p set) (g + 1) 99999 = fu (tkF t v p set) g 99999 := if_neg (by rw [h19]; decide)
        rw [c1] at ih
        exact ih m hm (fun x hx hxb => by
          by_cases q : x = g
          · subst q; rw [h19] at hxb; cases hxb
          · exact hv x (by omega) hxb) ho _ _ _ _
  exact key mi (fun _ _ => rfl) (fun x hx => absurd hx (by omega)) (fun _ _ => rfl) none none none none
theorem m_laysTakes (hX : XM mr) (hM : MM M) (hY : XT mr M) (hTn : mr 1000 3 = some M) (hg : GB t) (hW : WT t) (hR : RM mi M t) (hV : VM mi t v) (hp : ∀ m : MI, (∀ z, z ≠ 1005 → z ≠ 1006 → m z = mi z) → (∀ q s, q < t 0 5 → s < 32 → m 1006 (32 * q + s) = nI (tk t v q s)) → post none m ml mr dom) : CT G 4 0 0 yX13_laysTakes cX13_laysTakes 3 none [.ref 1000] mi ml mr dom post := by
  have w := hW.1
  have hge := hM.ge
  refine enter 2 (by decide) rfl rfl (fun X => ?_)
  refine j_iconst (v := nI 0) dX13_laysTakes_0 (by decide) ?_
  refine j_istore_n (lv2 := [_, _, _]) dX13_laysTakes_1 rfl (by decide) rfl rfl ?_
  skip
  have key : ∀ m : MI, (∀ z, z ≠ 1005 → z ≠ 1006 → m z = mi z) → (∀ q s, q < 0 → s < 32 → m 1006 (32 * q + s) = nI (tk t v q s)) → ∀ z : Option Value, J cX13_laysTakes 3 yX13_laysTakes.cls yX13_laysTakes.name none 4 G X post 0 0 m ml mr dom 2 [some (.ref 1000), some (.int (nI 0)), z] [] := by
    refine lq (n := t 0 5) (H := fun p => ∀ m : MI, (∀ z, z ≠ 1005 → z ≠ 1006 → m z = mi z) → (∀ q s, q < p → s < 32 → m 1006 (32 * q + s) = nI (tk t v q s)) → ∀ z : Option Value, J cX13_laysTakes 3 yX13_laysTakes.cls yX13_laysTakes.name none 4 G X post 0 0 m ml mr dom 2 [some (.ref 1000), some (.int (nI p)), z] []) (fun m hm hq z => ?_) (fun p hp5 ihp m hm hq z => ?_)
    · have hRm : RM m M t := RM_lo hM (fun n hn => by rw [hm n (by omega) (by omega)]) hR
      have hVm : VM m t v := VM_off (by rw [hm 1002 (by decide) (by decide)]) hV
      refine j_iload_n dX13_laysTakes_2 rfl rfl ?_
      refine j_aload_n dX13_laysTakes_3 rfl rfl ?_
      refine gR13_335 rfl dX13_laysTakes_4 hTn ?_
      refine gI13_199 (kM0 hM) dX13_laysTakes_7 ?_
      rw [hRm.1 5 (by decide)]
      refine j_icmp_ge (tgt := 58) dX13_laysTakes_10 (by decide) (fun h10 => ?_) (fun h10 => by exfalso; rw [nI_leI (by have := hg 0 5; omega) (by have := hg 0 5; omega)] at h10; have := hg 0 5; omega)
      refine j_vret rfl dX13_laysTakes_58 ?_
      exact hp m hm hq
    · have hRm : RM m M t := RM_lo hM (fun n hn => by rw [hm n (by omega) (by omega)]) hR
      have hVm : VM m t v := VM_off (by rw [hm 1002 (by decide) (by decide)]) hV
      refine j_iload_n dX13_laysTakes_2 rfl rfl ?_
      refine j_aload_n dX13_laysTakes_3 rfl rfl ?_
      refine gR13_335 rfl dX13_laysTakes_4 hTn ?_
      refine gI13_199 (kM0 hM) dX13_laysTakes_7 ?_
      rw [hRm.1 5 (by decide)]
      refine j_icmp_ge (tgt := 58) dX13_laysTakes_10 (by decide) (fun h10 => by exfalso; rw [nI_leI (by have := hg 0 5; omega) (by omega)] at h10; have := hg 0 5; omega) (fun h10 => ?_)
      refine j_iconst (v := nI 0) dX13_laysTakes_13 (by decide) ?_
      refine j_istore_n (lv2 := [_, _, _]) dX13_laysTakes_14 rfl (by decide) rfl rfl ?_
      have keys : ∀ m : MI, (∀ z, z ≠ 1005 → z ≠ 1006 → m z = mi z) → (∀ q s, q < p → s < 32 → m 1006 (32 * q + s) = nI (tk t v q s)) → (∀ x, x < 0 → m 1006 (32 * p + x) = nI (tk t v p x)) → (∀ x g, x < 0 → g < 5 → x.testBit g = true → m 1005 (5 * x + g) = nI (bh t v p x g)) → J cX13_laysTakes 3 yX13_laysTakes.cls yX13_laysTakes.name none 4 G X post 0 0 m ml mr dom 15 [some (.ref 1000), some (.int (nI p)), some (.int (nI 0))] [] := by
        refine lq (n := 32) (H := fun s => ∀ m : MI, (∀ z, z ≠ 1005 → z ≠ 1006 → m z = mi z) → (∀ q s, q < p → s < 32 → m 1006 (32 * q + s) = nI (tk t v q s)) → (∀ x, x < s → m 1006 (32 * p + x) = nI (tk t v p x)) → (∀ x g, x < s → g < 5 → x.testBit g = true → m 1005 (5 * x + g) = nI (bh t v p x g)) → J cX13_laysTakes 3 yX13_laysTakes.cls yX13_laysTakes.name none 4 G X post 0 0 m ml mr dom 15 [some (.ref 1000), some (.int (nI p)), some (.int (nI s))] []) (fun m hm hq hx0 hbh => ?_) (fun s hs32 ih m hm hq hx0 hbh => ?_)
        · have hRm : RM m M t := RM_lo hM (fun n hn => by rw [hm n (by omega) (by omega)]) hR
          have hVm : VM m t v := VM_off (by rw [hm 1002 (by decide) (by decide)]) hV
          refine j_iload_n dX13_laysTakes_15 rfl rfl ?_
          refine j_bipush (v := nI 32) dX13_laysTakes_16 (by decide) ?_
          refine j_icmp_ge (tgt := 52) dX13_laysTakes_18 (by decide) (fun h18 => ?_) (fun h18 => by exfalso; rw [nI_leI (by omega) (by omega)] at h18; omega)
          refine j_iinc1 (lv2 := [_, _, _]) dX13_laysTakes_52 rfl (by decide) rfl rfl ?_
          rw [nI_1]
          refine j_goto (tgt := 2) dX13_laysTakes_55 (by decide) ?_
          exact ihp m hm (fun q x y1 y2 => by
            by_cases e : q = p
            · subst e; exact hx0 x y2
            · exact hq q x (by omega) y2) _
        · have hRm : RM m M t := RM_lo hM (fun n hn => by rw [hm n (by omega) (by omega)]) hR
          have hVm : VM m t v := VM_off (by rw [hm 1002 (by decide) (by decide)]) hV
          refine j_iload_n dX13_laysTakes_15 rfl rfl ?_
          refine j_bipush (v := nI 32) dX13_laysTakes_16 (by decide) ?_
          refine j_icmp_ge (tgt := 52) dX13_laysTakes_18 (by decide) (fun h18 => by exfalso; rw [nI_leI (by omega) (by omega)] at h18; omega) (fun h18 => ?_)
          refine j_aload_n dX13_laysTakes_21 rfl rfl ?_
          refine gR13_30 rfl dX13_laysTakes_22 (x1006 hX) ?_
          refine j_bipush (v := nI 32) dX13_laysTakes_25 (by decide) ?_
          refine j_iload_n dX13_laysTakes_27 rfl rfl ?_
          refine j_imul dX13_laysTakes_28 ?_
          rw [pk_mul]
          refine j_iload_n dX13_laysTakes_29 rfl rfl ?_
          refine j_iadd dX13_laysTakes_30 ?_
          rw [nI_add]
          refine j_iload_n dX13_laysTakes_31 rfl rfl ?_
          refine j_if_ne (tgt := 39) dX13_laysTakes_32 (by decide) (fun h32 => ?_) (fun h32 => ?_)
          all_goals rw [show (0 : Int32) = nI 0 from rfl, nI_eq (by omega) (by decide)] at h32
          · refine j_aload_n dX13_laysTakes_39 rfl rfl ?_
            refine j_iload_n dX13_laysTakes_40 rfl rfl ?_
            refine j_iload_n dX13_laysTakes_41 rfl rfl ?_
            refine cV13_414 (d1 := 3) rfl dX13_laysTakes_42 (by decide) (Nat.le_of_ble_eq_true rfl) ?_
            refine m_laysSet hX hM hY hTn hg hW hRm hVm (by omega) (by omega) (by omega) (fun g hg5 hb f hf hfb => hbh _ f (by have := Nat.ge_two_pow_of_testBit hb; have := Nat.two_pow_pos g; omega) hf hfb) (fun m2 hm2 hn2 ho2 => ?_)
            refine j_iast rfl (inT (show ln 1006 = 192 from rfl) (by show (32 * p) + s < 192; omega) (by decide)) dX13_laysTakes_45 ?_
            rw [nI_clamp (by omega)]
            refine j_iinc1 (lv2 := [_, _, _]) dX13_laysTakes_46 rfl (by decide) rfl rfl ?_
            rw [nI_1]
            refine j_goto (tgt := 15) dX13_laysTakes_49 (by decide) ?_
            refine ih _ (fun z y1 y2 => by rw [up_off _ _ y2, hm2 z y1]; exact hm z y1 y2) (fun q x y1 y2 => ?_) (fun x hx => ?_) (fun x g hx hg5 hxb => ?_)
            · rw [up_ne _ _ (by omega), hm2 1006 (by decide)]; exact hq q x y1 y2
            · by_cases e : x = s
              · subst e; rw [up_at]
              · rw [up_ne _ _ (by omega), hm2 1006 (by decide)]; exact hx0 x (by omega)
            · rw [up_off _ _ (by decide)]
              by_cases e : x = s
              · subst e; exact hn2 g hg5 hxb
              · rw [ho2 _ (fun y hy => by omega)]; exact hbh x g (by omega) hg5 hxb
          · refine j_iconst (v := nI 0) dX13_laysTakes_35 (by decide) ?_
            refine j_goto (tgt := 45) dX13_laysTakes_36 (by decide) ?_
            refine j_iast rfl (inT (show ln 1006 = 192 from rfl) (by show (32 * p) + s < 192; omega) (by decide)) dX13_laysTakes_45 ?_
            rw [nI_clamp (by omega)]
            refine j_iinc1 (lv2 := [_, _, _]) dX13_laysTakes_46 rfl (by decide) rfl rfl ?_
            rw [nI_1]
            refine j_goto (tgt := 15) dX13_laysTakes_49 (by decide) ?_
            refine ih _ (fun z y1 y2 => by rw [up_off _ _ y2]; exact hm z y1 y2) (fun q x y1 y2 => ?_) (fun x hx => ?_) (fun x g hx hg5 hxb => ?_)
            · rw [up_ne _ _ (by omega)]; exact hq q x y1 y2
            · by_cases e : x = s
              · subst e; rw [up_at, show tk t v p x = 0 from if_pos (by omega)]
              · rw [up_ne _ _ (by omega)]; exact hx0 x (by omega)
            · rw [up_off _ _ (by decide)]
              by_cases e : x = s
              · subst e; rw [show x = 0 by omega] at hxb; simp at hxb
              · exact hbh x g (by omega) hg5 hxb
      exact keys m hm hq (fun x hx => absurd hx (by omega)) (fun x g hx => absurd hx (by omega))
  exact key mi (fun _ _ _ => rfl) (fun q s hq => absurd hq (by omega)) none
end M13c
