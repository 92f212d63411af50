/-! the reference: hours, draws, who has been led, what is fed -/
theorem lN_div {a d : Nat} (ha : a < 2 ^ 31) (h0 : 0 < d) (hd : d < 2 ^ 31) : lN a / lN d = lN (a / d) := by
  apply Int64.toInt_inj.mp
  rw [Int64.toInt_div_of_ne_right _ _ (by
    intro q
    have := congrArg Int64.toInt q
    rw [lN_toInt hd] at this
    exact absurd this (by rw [show (-1 : Int64).toInt = -1 from rfl]; omega)), lN_toInt ha, lN_toInt hd, lN_toInt (Nat.lt_of_le_of_lt (Nat.div_le_self a d) ha)]
  rw [Int.tdiv_eq_ediv_of_nonneg (by omega)]
  exact (Int.natCast_ediv _ _).symm
theorem lN_rem {a d : Nat} (ha : a < 2 ^ 31) (h0 : 0 < d) (hd : d < 2 ^ 31) : lN a - lN a / lN d * lN d = lN (a % d) := by
  rw [lN_div ha h0 hd, lN_mul, lN_sub (Nat.div_mul_le_self a d)]
  exact congrArg lN (by have := Nat.div_add_mod' a d; omega)
section M13f
variable {G : GG} {post : PT} {mi : MI} {ml : ML} {mr : MR} {dom : List Nat} {M : Nat} {t : TW} {v : Nat → Nat}
theorem mx_hoursB {x : Int32} (hX : XM mr) (hM : MM M) (hY : XT mr M) (hTn : mr 1000 3 = some M) (hg : GB t) (hW : WT t) (hR : RM mi M t) (hb : x < nI 1 ∨ nI 24 < x) (hp : post (some (.int (-1))) (rf mi (nI 2)) ml mr dom) : CT G 3 0 0 yX13_hours cX13_hours 2 (some .int) [.ref 1000, .int x] mi ml mr dom post := by
  have w := hW.1
  have hge := hM.ge
  refine enter 0 (by decide) rfl rfl (fun X => ?_)
  refine j_aload_n dX13_hours_0 rfl rfl ?_
  refine j_iconst (v := nI 0) dX13_hours_1 (by decide) ?_
  refine pI13_51 rfl dX13_hours_2 ?_
  obtain ⟨m1, e1⟩ : ∃ m, m = up mi 1000 0 (nI 0) := ⟨_, rfl⟩
  rw [← e1]
  have hR1 : RM m1 M t := RM_lo hM (fun n hn => by rw [e1, up_off _ _ (by omega)]) hR
  refine j_aload_n dX13_hours_5 rfl rfl ?_
  refine gR13_335 rfl dX13_hours_6 hTn ?_
  refine j_ifnonnull (tgt := 18) dX13_hours_9 (by decide) ?_
  refine j_iload_n dX13_hours_18 rfl rfl ?_
  refine j_iconst (v := nI 1) dX13_hours_19 (by decide) ?_
  refine j_bipush (v := nI 24) dX13_hours_20 (by decide) ?_
  refine cS13_129 (d1 := 1) dX13_hours_22 (by decide) (Nat.le_of_ble_eq_true rfl) ?_
  refine m_inB hb ?_
  refine j_if_ne (tgt := 34) dX13_hours_25 (by decide) (fun h25 => absurd (by decide) h25) (fun h25 => ?_)
  refine j_aload_n dX13_hours_28 rfl rfl ?_
  refine j_iconst (v := nI 2) dX13_hours_29 (by decide) ?_
  refine cV13_57 (d1 := 1) rfl dX13_hours_30 (by decide) (Nat.le_of_ble_eq_true rfl) ?_
  refine m_refused ?_
  refine j_iret rfl dX13_hours_33 ?_
  rw [e1]; exact hp
theorem mx_hoursL {n a : Nat} (hX : XM mr) (hM : MM M) (hY : XT mr M) (hTn : mr 1000 3 = some M) (hg : GB t) (hW : WT t) (hR : RM mi M t) (hV : VM mi t v) (h1 : 1 ≤ n) (h2 : n ≤ 24) (hlt : v 11 + n < 24) (h_acts : mi 1000 19 = nI a) (ha : a ≤ 16) (hp : ∀ m, RB2 a (up mi 1000 0 (nI 0)) m → post (some (.int (nI (v 11 + n)))) (up (up (up m 1002 11 (nI (v 11 + n))) 1000 1 0) 1000 2 (-1)) ml mr dom) : CT G 3 0 0 yX13_hours cX13_hours 2 (some .int) [.ref 1000, .int (nI n)] mi ml mr dom post := by
  have w := hW.1
  have hge := hM.ge
  have q11 := hV.2.2.1.2
  have q12 := hV.2.2.2.2
  refine enter 0 (by decide) rfl rfl (fun X => ?_)
  refine j_aload_n dX13_hours_0 rfl rfl ?_
  refine j_iconst (v := nI 0) dX13_hours_1 (by decide) ?_
  refine pI13_51 rfl dX13_hours_2 ?_
  obtain ⟨m1, e1⟩ : ∃ m, m = up mi 1000 0 (nI 0) := ⟨_, rfl⟩
  rw [← e1]
  have hR1 : RM m1 M t := RM_lo hM (fun n hn => by rw [e1, up_off _ _ (by omega)]) hR
  have hV1 : VM m1 t v := VM_off (by rw [e1, up_off _ _ (by decide)]) hV
  refine j_aload_n dX13_hours_5 rfl rfl ?_
  refine gR13_335 rfl dX13_hours_6 hTn ?_
  refine j_ifnonnull (tgt := 18) dX13_hours_9 (by decide) ?_
  refine j_iload_n dX13_hours_18 rfl rfl ?_
  refine j_iconst (v := nI 1) dX13_hours_19 (by decide) ?_
  refine j_bipush (v := nI 24) dX13_hours_20 (by decide) ?_
  refine cS13_129 (d1 := 1) dX13_hours_22 (by decide) (Nat.le_of_ble_eq_true rfl) ?_
  refine m_inG (by show 1 ≤ n; omega) (by show n ≤ 24; omega) (by decide) ?_
  refine j_if_ne (tgt := 34) dX13_hours_25 (by decide) (fun h25 => ?_) (fun h25 => absurd h25 (by decide))
  refine j_aload_n dX13_hours_34 rfl rfl ?_
  refine cV13_495 (d1 := 1) rfl dX13_hours_35 (by decide) (Nat.le_of_ble_eq_true rfl) ?_
  refine m_rememb hX ha (by rw [e1, up_ne _ _ (by decide)]; exact h_acts) (fun m2 hm2 => ?_)
  refine j_aload_n dX13_hours_38 rfl rfl ?_
  refine gR13_17 rfl dX13_hours_39 (x1002 hX) ?_
  refine j_bipush (v := nI 11) dX13_hours_42 (by decide) ?_
  refine j_dup2 dX13_hours_44 rfl rfl ?_
  refine j_iald rfl (inT (show ln 1002 = 13 from rfl) (show 11 < 13 by decide) (by decide)) dX13_hours_45 ?_
  rw [nI_clamp (by decide), show m2 1002 11 = nI (v 11) by rw [hm2.1 1002 (by decide) (by decide)]; exact hV1.2.2.1.1]
  refine j_iload_n dX13_hours_46 rfl rfl ?_
  refine j_iadd dX13_hours_47 ?_
  rw [nI_add]
  refine j_iast rfl (inT (show ln 1002 = 13 from rfl) (show 11 < 13 by decide) (by decide)) dX13_hours_48 ?_
  rw [nI_clamp (by decide)]
  refine j_aload_n dX13_hours_49 rfl rfl ?_
  refine gR13_17 rfl dX13_hours_50 (x1002 hX) ?_
  refine j_bipush (v := nI 11) dX13_hours_53 (by decide) ?_
  refine j_iald rfl (inT (show ln 1002 = 13 from rfl) (show 11 < 13 by decide) (by decide)) dX13_hours_55 ?_
  rw [nI_clamp (by decide), up_at]
  refine j_bipush (v := nI 24) dX13_hours_56 (by decide) ?_
  refine j_icmp_lt (tgt := 84) dX13_hours_58 (by decide) (fun h58 => ?_) (fun h58 => by exfalso; rw [nI_ltI (by have := hV1.2.2.1.2; omega) (by omega)] at h58; have := hV1.2.2.1.2; omega)
  refine j_aload_n dX13_hours_84 rfl rfl ?_
  refine j_aload_n dX13_hours_85 rfl rfl ?_
  refine gR13_17 rfl dX13_hours_86 (x1002 hX) ?_
  refine j_bipush (v := nI 11) dX13_hours_89 (by decide) ?_
  refine j_iald rfl (inT (show ln 1002 = 13 from rfl) (show 11 < 13 by decide) (by decide)) dX13_hours_91 ?_
  rw [nI_clamp (by decide), up_at]
  refine cV13_61 (d1 := 1) rfl dX13_hours_92 (by decide) (Nat.le_of_ble_eq_true rfl) ?_
  refine m_fair ?_
  refine j_iret rfl dX13_hours_95 ?_
  exact hp m2 (e1 ▸ hm2)
theorem mx_hoursG {n a : Nat} (hX : XM mr) (hM : MM M) (hY : XT mr M) (hTn : mr 1000 3 = some M) (hg : GB t) (hW : WT t) (hR : RM mi M t) (hV : VM mi t v) (h1 : 1 ≤ n) (h2 : n ≤ 24) (hlt : 24 ≤ v 11 + n) (h_acts : mi 1000 19 = nI a) (ha : a ≤ 16) (hp : ∀ m, RB2 a (up mi 1000 0 (nI 0)) m → post (some (.int (nI (v 11 + n - 24)))) (up (up (up (up (up m 1002 11 (nI (v 11 + n))) 1002 11 (nI (v 11 + n - 24))) 1002 12 (nI (v 12 + 1))) 1000 1 0) 1000 2 (-1)) ml mr dom) : CT G 3 0 0 yX13_hours cX13_hours 2 (some .int) [.ref 1000, .int (nI n)] mi ml mr dom post := by
  have w := hW.1
  have hge := hM.ge
  have q11 := hV.2.2.1.2
  have q12 := hV.2.2.2.2
  refine enter 0 (by decide) rfl rfl (fun X => ?_)
  refine j_aload_n dX13_hours_0 rfl rfl ?_
  refine j_iconst (v := nI 0) dX13_hours_1 (by decide) ?_
  refine pI13_51 rfl dX13_hours_2 ?_
  obtain ⟨m1, e1⟩ : ∃ m, m = up mi 1000 0 (nI 0) := ⟨_, rfl⟩
  rw [← e1]
  have hR1 : RM m1 M t := RM_lo hM (fun n hn => by rw [e1, up_off _ _ (by omega)]) hR
  have hV1 : VM m1 t v := VM_off (by rw [e1, up_off _ _ (by decide)]) hV
  refine j_aload_n dX13_hours_5 rfl rfl ?_
  refine gR13_335 rfl dX13_hours_6 hTn ?_
  refine j_ifnonnull (tgt := 18) dX13_hours_9 (by decide) ?_
  refine j_iload_n dX13_hours_18 rfl rfl ?_
  refine j_iconst (v := nI 1) dX13_hours_19 (by decide) ?_
  refine j_bipush (v := nI 24) dX13_hours_20 (by decide) ?_
  refine cS13_129 (d1 := 1) dX13_hours_22 (by decide) (Nat.le_of_ble_eq_true rfl) ?_
  refine m_inG (by show 1 ≤ n; omega) (by show n ≤ 24; omega) (by decide) ?_
  refine j_if_ne (tgt := 34) dX13_hours_25 (by decide) (fun h25 => ?_) (fun h25 => absurd h25 (by decide))
  refine j_aload_n dX13_hours_34 rfl rfl ?_
  refine cV13_495 (d1 := 1) rfl dX13_hours_35 (by decide) (Nat.le_of_ble_eq_true rfl) ?_
  refine m_rememb hX ha (by rw [e1, up_ne _ _ (by decide)]; exact h_acts) (fun m2 hm2 => ?_)
  refine j_aload_n dX13_hours_38 rfl rfl ?_
  refine gR13_17 rfl dX13_hours_39 (x1002 hX) ?_
  refine j_bipush (v := nI 11) dX13_hours_42 (by decide) ?_
  refine j_dup2 dX13_hours_44 rfl rfl ?_
  refine j_iald rfl (inT (show ln 1002 = 13 from rfl) (show 11 < 13 by decide) (by decide)) dX13_hours_45 ?_
  rw [nI_clamp (by decide), show m2 1002 11 = nI (v 11) by rw [hm2.1 1002 (by decide) (by decide)]; exact hV1.2.2.1.1]
  refine j_iload_n dX13_hours_46 rfl rfl ?_
  refine j_iadd dX13_hours_47 ?_
  rw [nI_add]
  refine j_iast rfl (inT (show ln 1002 = 13 from rfl) (show 11 < 13 by decide) (by decide)) dX13_hours_48 ?_
  rw [nI_clamp (by decide)]
  refine j_aload_n dX13_hours_49 rfl rfl ?_
  refine gR13_17 rfl dX13_hours_50 (x1002 hX) ?_
  refine j_bipush (v := nI 11) dX13_hours_53 (by decide) ?_
  refine j_iald rfl (inT (show ln 1002 = 13 from rfl) (show 11 < 13 by decide) (by decide)) dX13_hours_55 ?_
  rw [nI_clamp (by decide), up_at]
  refine j_bipush (v := nI 24) dX13_hours_56 (by decide) ?_
  refine j_icmp_lt (tgt := 84) dX13_hours_58 (by decide) (fun h58 => by exfalso; rw [nI_ltI (by have := hV1.2.2.1.2; omega) (by omega)] at h58; have := hV1.2.2.1.2; omega) (fun h58 => ?_)
  refine j_aload_n dX13_hours_61 rfl rfl ?_
  refine gR13_17 rfl dX13_hours_62 (x1002 hX) ?_
  refine j_bipush (v := nI 11) dX13_hours_65 (by decide) ?_
  refine j_dup2 dX13_hours_67 rfl rfl ?_
  refine j_iald rfl (inT (show ln 1002 = 13 from rfl) (show 11 < 13 by decide) (by decide)) dX13_hours_68 ?_
  rw [nI_clamp (by decide), up_at]
  refine j_bipush (v := nI 24) dX13_hours_69 (by decide) ?_
  refine j_isub dX13_hours_71 ?_
  rw [pk_sub (by have := hV1.2.2.1.2; show 24 ≤ v 11 + n; omega)]
  refine j_iast rfl (inT (show ln 1002 = 13 from rfl) (show 11 < 13 by decide) (by decide)) dX13_hours_72 ?_
  rw [nI_clamp (by decide)]
  refine j_aload_n dX13_hours_73 rfl rfl ?_
  refine gR13_17 rfl dX13_hours_74 (x1002 hX) ?_
  refine j_bipush (v := nI 12) dX13_hours_77 (by decide) ?_
  refine j_dup2 dX13_hours_79 rfl rfl ?_
  refine j_iald rfl (inT (show ln 1002 = 13 from rfl) (show 12 < 13 by decide) (by decide)) dX13_hours_80 ?_
  rw [nI_clamp (by decide), up_ne _ _ (by decide), up_ne _ _ (by decide), show m2 1002 12 = nI (v 12) by rw [hm2.1 1002 (by decide) (by decide)]; exact hV1.2.2.2.1]
  refine j_iconst (v := nI 1) dX13_hours_81 (by decide) ?_
  refine j_iadd dX13_hours_82 ?_
  rw [nI_add]
  refine j_iast rfl (inT (show ln 1002 = 13 from rfl) (show 12 < 13 by decide) (by decide)) dX13_hours_83 ?_
  rw [nI_clamp (by decide)]
  refine j_aload_n dX13_hours_84 rfl rfl ?_
  refine j_aload_n dX13_hours_85 rfl rfl ?_
  refine gR13_17 rfl dX13_hours_86 (x1002 hX) ?_
  refine j_bipush (v := nI 11) dX13_hours_89 (by decide) ?_
  refine j_iald rfl (inT (show ln 1002 = 13 from rfl) (show 11 < 13 by decide) (by decide)) dX13_hours_91 ?_
  rw [nI_clamp (by decide), up_ne _ _ (by decide), up_at]
  refine cV13_61 (d1 := 1) rfl dX13_hours_92 (by decide) (Nat.le_of_ble_eq_true rfl) ?_
  refine m_fair ?_
  refine j_iret rfl dX13_hours_95 ?_
  exact hp m2 (e1 ▸ hm2)
theorem m_draw {s k : Nat} (hs : s ≤ 65536) (hk0 : 0 < k) (hk : k < 2 ^ 20) (hsd : mi 1000 31 = nI s) (hp : post (some (.int (nI (nxs s % k)))) (up mi 1000 31 (nI (nxs s))) ml mr dom) : CT G 1 0 0 yX13_draw cX13_draw 2 (some .int) [.ref 1000, .int (nI k)] mi ml mr dom post := by
  have hx := nxs_lt s
  refine enter 0 (by decide) rfl rfl (fun X => ?_)
  refine j_aload_n dX13_draw_0 rfl rfl ?_
  refine j_ldc2 wd2064 dX13_draw_1 ?_
  refine j_aload_n dX13_draw_4 rfl rfl ?_
  refine gI13_481 rfl dX13_draw_5 ?_
  rw [hsd]
  refine j_i2l dX13_draw_8 ?_
  rw [nI_l (by omega)]
  refine j_lmul dX13_draw_9 ?_
  rw [show (75 : Int64) = lN 75 from rfl, lN_mul]
  refine j_ldc2 wd2065 dX13_draw_10 ?_
  refine j_ladd dX13_draw_13 ?_
  rw [show (74 : Int64) = lN 74 from rfl, lN_add]
  refine j_ldc2 wd2066 dX13_draw_14 ?_
  refine j_lrem dX13_draw_17 (by decide) ?_
  rw [show (65537 : Int64) = lN 65537 from rfl, lN_rem (by omega) (by decide) (by decide)]
  refine j_l2i dX13_draw_18 ?_
  rw [lN_i, show (75 * s + 74) % 65537 = nxs s from rfl]
  refine pI13_481 rfl dX13_draw_19 ?_
  refine j_aload_n dX13_draw_22 rfl rfl ?_
  refine gI13_481 rfl dX13_draw_23 ?_
  rw [up_at]
  refine j_iload_n dX13_draw_26 rfl rfl ?_
  refine j_irem dX13_draw_27 (nI_ne0 (by show 0 < k; omega) (by omega)) ?_
  rw [pk_rem (by omega) (by show 0 < k; omega) (by omega)]
  refine j_iret rfl dX13_draw_28 ?_
  exact hp
def whJ : Option Nat → Int32
  | none => -2
  | some p => nI p
theorem fdT_le {t : TW} (hg : GB t) (who : Option Nat) (d : Nat) : fdT t who d ≤ 50000 := by
  unfold fdT; split
  · have := hg 6 (nxs d % t 0 5); exact Nat.le_trans (fineO_le _ _ _ _) (by omega)
  · omega
theorem whJ_2 {who : Option Nat} (hw : ∀ p, who = some p → p < 6) : whJ who = -2 ↔ who = none := by
  cases who with
  | none => simp [whJ]
  | some p =>
    have := hw p rfl
    simp only [whJ, reduceCtorEq, iff_false]
    intro q
    have h2 := congrArg Int32.toInt q
    rw [nI_toInt (by omega)] at h2
    exact absurd h2 (by rw [show (-2 : Int32).toInt = -2 from rfl]; omega)
theorem whJ_p {who : Option Nat} (hw : ∀ p, who = some p → p < 6) {p : Nat} (hp : p < 6) : whJ who = nI p ↔ who = some p := by
  cases who with
  | none =>
    simp only [whJ, reduceCtorEq, iff_false]
    intro q
    have h2 := congrArg Int32.toInt q
    rw [nI_toInt (by omega)] at h2
    exact absurd h2 (by rw [show (-2 : Int32).toInt = -2 from rfl]; omega)
  | some r =>
    have := hw r rfl
    simp only [whJ, Option.some.injEq]
    exact nI_eq (by omega) (by omega)
theorem m_runs {who : Option Nat} {s0 : Nat} (hX : XM mr) (hM : MM M) (hY : XT mr M) (hTn : mr 1000 3 = some M) (hg : GB t) (hW : WT t) (hR : RM mi M t) (hLT : LT t) (hs0 : s0 ≤ 65536) (hw : ∀ p, who = some p → p < 6) (hsd0 : mi 1000 31 = nI s0) (hp : ∀ m : MI, off1 1000 m mi → (∀ j, j ≠ 31 → m 1000 j = mi 1000 j) → m 1000 31 = nI (dwn s0 (t 0 1 - t 0 0)) → post (some (.int (nI (fdr t who s0 (t 0 1 - t 0 0))))) m ml mr dom) : CT G 3 0 0 yX13_runs cX13_runs 6 (some .int) [.ref 1000, .int (whJ who)] mi ml mr dom post := by
  have w := hW.1
  have hge := hM.ge
  have hl := hLT.1
  have hl2 := hLT.2.1
  have hl3 := hLT.2.2.2.1
  have hl4 := hLT.2.2.2.2.1
  refine enter 4 (by decide) rfl rfl (fun X => ?_)
  refine j_iconst (v := nI 0) dX13_runs_0 (by decide) ?_
  refine j_istore_n (lv2 := [_, _, _, _, _, _]) dX13_runs_1 rfl (by decide) rfl rfl ?_
  refine j_aload_n dX13_runs_2 rfl rfl ?_
  refine gR13_335 rfl dX13_runs_3 hTn ?_
  refine gI13_232 (kM0 hM) dX13_runs_6 ?_
  rw [hR.1 0 (by decide)]
  refine j_istore_n (lv2 := [_, _, _, _, _, _]) dX13_runs_9 rfl (by decide) rfl rfl ?_
  have key : ∀ m : MI, RM m M t → off1 1000 m mi → (∀ j, j ≠ 31 → m 1000 j = mi 1000 j) → m 1000 31 = nI (dwn s0 0) → ∀ z4 z5 : Option Value, J cX13_runs 6 yX13_runs.cls yX13_runs.name (some .int) 3 G X post 0 0 m ml mr dom 10 [some (.ref 1000), some (.int (whJ who)), some (.int (nI (sm (fun i => fdT t who (dwn s0 i)) 0))), some (.int (nI (t 0 0 + 0))), z4, z5] [] := by
    refine lq (n := t 0 1 - t 0 0) (H := fun i => ∀ m : MI, RM m M t → off1 1000 m mi → (∀ j, j ≠ 31 → m 1000 j = mi 1000 j) → m 1000 31 = nI (dwn s0 i) → ∀ z4 z5 : Option Value, J cX13_runs 6 yX13_runs.cls yX13_runs.name (some .int) 3 G X post 0 0 m ml mr dom 10 [some (.ref 1000), some (.int (whJ who)), some (.int (nI (sm (fun i => fdT t who (dwn s0 i)) i))), some (.int (nI (t 0 0 + i))), z4, z5] []) (fun m hRm ho hsl hsd z4 z5 => ?_) (fun i hi ih m hRm ho hsl hsd z4 z5 => ?_)
    · skip
      refine j_iload_n dX13_runs_10 rfl rfl ?_
      refine j_aload_n dX13_runs_11 rfl rfl ?_
      refine gR13_335 rfl dX13_runs_12 hTn ?_
      refine gI13_234 (kM0 hM) dX13_runs_15 ?_
      rw [hRm.1 1 (by decide)]
      refine j_icmp_ge (tgt := 92) dX13_runs_18 (by decide) (fun h18 => ?_) (fun h18 => by exfalso; rw [nI_leI (by have := hg 0 1; omega) (by omega)] at h18; have := hg 0 1; omega)
      refine j_iload_n dX13_runs_92 rfl rfl ?_
      refine j_iret rfl dX13_runs_93 ?_
      exact hp m ho hsl hsd
    · skip
      refine j_iload_n dX13_runs_10 rfl rfl ?_
      refine j_aload_n dX13_runs_11 rfl rfl ?_
      refine gR13_335 rfl dX13_runs_12 hTn ?_
      refine gI13_234 (kM0 hM) dX13_runs_15 ?_
      rw [hRm.1 1 (by decide)]
      refine j_icmp_ge (tgt := 92) dX13_runs_18 (by decide) (fun h18 => by exfalso; rw [nI_leI (by have := hg 0 1; omega) (by omega)] at h18; have := hg 0 1; omega) (fun h18 => ?_)
      refine j_aload_n dX13_runs_21 rfl rfl ?_
      refine j_aload_n dX13_runs_22 rfl rfl ?_
      refine gR13_335 rfl dX13_runs_23 hTn ?_
      refine gI13_199 (kM0 hM) dX13_runs_26 ?_
      rw [hRm.1 5 (by decide)]
      refine cV13_488 (d1 := 1) rfl dX13_runs_29 (by decide) (Nat.le_of_ble_eq_true rfl) ?_
      refine m_draw (s := dwn s0 i) (by have := dwn_le hs0 i; omega) (by omega) (by omega) hsd ?_
      refine j_istore (lv2 := [_, _, _, _, _, _]) dX13_runs_32 (by decide) rfl rfl ?_
      have hR1 : RM (up m 1000 31 (nI (nxs (dwn s0 i)))) M t := RM_lo hM (fun n hn => up_off _ _ (by omega)) hRm
      refine j_aload_n dX13_runs_34 rfl rfl ?_
      refine gR13_335 rfl dX13_runs_35 hTn ?_
      refine j_iload dX13_runs_38 rfl ?_
      refine j_aload_n dX13_runs_40 rfl rfl ?_
      refine gR13_335 rfl dX13_runs_41 hTn ?_
      refine gR13_249 (kM0 hM) dX13_runs_44 (xM1 hY) ?_
      refine j_aload_n dX13_runs_47 rfl rfl ?_
      refine j_aload_n dX13_runs_48 rfl rfl ?_
      refine gR13_335 rfl dX13_runs_49 hTn ?_
      refine gI13_196 (kM0 hM) dX13_runs_52 ?_
      rw [hR1.1 3 (by decide)]
      refine cV13_488 (d1 := 1) rfl dX13_runs_55 (by decide) (Nat.le_of_ble_eq_true rfl) ?_
      refine m_draw (s := nxs (dwn s0 i)) (by have := nxs_lt (dwn s0 i); omega) (by omega) (by omega) (up_at _ _ _ _) ?_
      have hR2 : RM (up (up m 1000 31 (nI (nxs (dwn s0 i)))) 1000 31 (nI (nxs (nxs (dwn s0 i))))) M t := RM_lo hM (fun n hn => by rw [up_off _ _ (by omega), up_off _ _ (by omega)]) hRm
      have hq3 := hW.2.1 (nxs (nxs (dwn s0 i)) % t 0 3) (Nat.mod_lt _ (by omega))
      refine j_iald (kM1 hM) (inT (lM1 hM) (by have := Nat.mod_lt (nxs (nxs (dwn s0 i))) (show 0 < t 0 3 by omega); show nxs (nxs (dwn s0 i)) % t 0 3 < 6; omega) (by decide)) dX13_runs_58 ?_
      rw [nI_clamp (by have := Nat.mod_lt (nxs (nxs (dwn s0 i))) (show 0 < t 0 3 by omega); omega), rM1 hR2 (by have := Nat.mod_lt (nxs (nxs (dwn s0 i))) (show 0 < t 0 3 by omega); show nxs (nxs (dwn s0 i)) % t 0 3 < 6; omega)]
      refine j_iload_n dX13_runs_59 rfl rfl ?_
      refine cV13_388 (d1 := 2) (kM0 hM) dX13_runs_60 (by decide) (Nat.le_of_ble_eq_true rfl) ?_
      refine m_fineBy hM hY hg hW hR2 (by have := Nat.mod_lt (nxs (dwn s0 i)) (show 0 < t 0 5 by omega); omega) (by have := hq3; omega) (by omega) ?_
      rw [show isD t (t 0 0 + i) = true by unfold isD; rw [decide_eq_true (by omega), decide_eq_true (by omega)]; rfl]
      refine j_istore (lv2 := [_, _, _, _, _, _]) dX13_runs_63 (by decide) rfl rfl ?_
      refine j_iload_n dX13_runs_65 rfl rfl ?_
      refine j_iload_n dX13_runs_66 rfl rfl ?_
      refine j_bipush (v := -2) dX13_runs_67 (by decide) ?_
      refine j_icmp_eq (tgt := 78) dX13_runs_69 (by decide) (fun h69 => ?_) (fun h69 => ?_)
      · refine j_iload dX13_runs_78 rfl ?_
        refine j_goto (tgt := 84) dX13_runs_80 (by decide) ?_
        refine j_iadd dX13_runs_84 ?_
        rw [nI_add]
        refine j_istore_n (lv2 := [_, _, _, _, _, _]) dX13_runs_85 rfl (by decide) rfl rfl ?_
        refine j_iinc1 (lv2 := [_, _, _, _, _, _]) dX13_runs_86 rfl (by decide) rfl rfl ?_
        rw [nI_1]
        refine j_goto (tgt := 10) dX13_runs_89 (by decide) ?_
        have hf : (fun i => fdT t who (dwn s0 i)) i = fineO (t 4 (nxs (dwn s0 i) % t 0 5)) (t 6 (nxs (dwn s0 i) % t 0 5)) (t 1 (nxs (nxs (dwn s0 i)) % t 0 3)) true := if_pos (by first | exact Or.inl ((whJ_2 hw).mp h69) | exact Or.inr ((whJ_p hw (by have := Nat.mod_lt (nxs (dwn s0 i)) (show 0 < t 0 5 by omega); omega)).mp h75))
        rw [show sm (fun i => fdT t who (dwn s0 i)) (i + 1) = sm (fun i => fdT t who (dwn s0 i)) i + (fun i => fdT t who (dwn s0 i)) i from rfl, hf] at ih
        rw [show t 0 0 + i + 1 = t 0 0 + (i + 1) by omega]
        exact ih _ (RM_lo hM (fun n hn => by rw [up_off _ _ (by omega), up_off _ _ (by omega)]) hRm) (fun n hn => by rw [up_off _ _ hn, up_off _ _ hn]; exact ho n hn) (fun j hj => by rw [up_ne _ _ hj, up_ne _ _ hj]; exact hsl j hj) (up_at _ _ _ _) _ _
      · refine j_iload_n dX13_runs_72 rfl rfl ?_
        refine j_iload dX13_runs_73 rfl ?_
        refine j_icmp_ne (tgt := 83) dX13_runs_75 (by decide) (fun h75 => ?_) (fun h75 => ?_)
        · refine j_iconst (v := nI 0) dX13_runs_83 (by decide) ?_
          refine j_iadd dX13_runs_84 ?_
          rw [nI_add]
          refine j_istore_n (lv2 := [_, _, _, _, _, _]) dX13_runs_85 rfl (by decide) rfl rfl ?_
          refine j_iinc1 (lv2 := [_, _, _, _, _, _]) dX13_runs_86 rfl (by decide) rfl rfl ?_
          rw [nI_1]
          refine j_goto (tgt := 10) dX13_runs_89 (by decide) ?_
          have hf : (fun i => fdT t who (dwn s0 i)) i = 0 := if_neg (fun q => q.elim (fun q => h69 ((whJ_2 hw).mpr q)) (fun q => h75 ((whJ_p hw (by have := Nat.mod_lt (nxs (dwn s0 i)) (show 0 < t 0 5 by omega); omega)).mpr q)))
          rw [show sm (fun i => fdT t who (dwn s0 i)) (i + 1) = sm (fun i => fdT t who (dwn s0 i)) i + (fun i => fdT t who (dwn s0 i)) i from rfl, hf] at ih
          rw [show t 0 0 + i + 1 = t 0 0 + (i + 1) by omega]
          exact ih _ (RM_lo hM (fun n hn => by rw [up_off _ _ (by omega), up_off _ _ (by omega)]) hRm) (fun n hn => by rw [up_off _ _ hn, up_off _ _ hn]; exact ho n hn) (fun j hj => by rw [up_ne _ _ hj, up_ne _ _ hj]; exact hsl j hj) (up_at _ _ _ _) _ _
        · refine j_iload dX13_runs_78 rfl ?_
          refine j_goto (tgt := 84) dX13_runs_80 (by decide) ?_
          refine j_iadd dX13_runs_84 ?_
          rw [nI_add]
          refine j_istore_n (lv2 := [_, _, _, _, _, _]) dX13_runs_85 rfl (by decide) rfl rfl ?_
          refine j_iinc1 (lv2 := [_, _, _, _, _, _]) dX13_runs_86 rfl (by decide) rfl rfl ?_
          rw [nI_1]
          refine j_goto (tgt := 10) dX13_runs_89 (by decide) ?_
          have hf : (fun i => fdT t who (dwn s0 i)) i = fineO (t 4 (nxs (dwn s0 i) % t 0 5)) (t 6 (nxs (dwn s0 i) % t 0 5)) (t 1 (nxs (nxs (dwn s0 i)) % t 0 3)) true := if_pos (by first | exact Or.inl ((whJ_2 hw).mp h69) | exact Or.inr ((whJ_p hw (by have := Nat.mod_lt (nxs (dwn s0 i)) (show 0 < t 0 5 by omega); omega)).mp h75))
          rw [show sm (fun i => fdT t who (dwn s0 i)) (i + 1) = sm (fun i => fdT t who (dwn s0 i)) i + (fun i => fdT t who (dwn s0 i)) i from rfl, hf] at ih
          rw [show t 0 0 + i + 1 = t 0 0 + (i + 1) by omega]
          exact ih _ (RM_lo hM (fun n hn => by rw [up_off _ _ (by omega), up_off _ _ (by omega)]) hRm) (fun n hn => by rw [up_off _ _ hn, up_off _ _ hn]; exact ho n hn) (fun j hj => by rw [up_ne _ _ hj, up_ne _ _ hj]; exact hsl j hj) (up_at _ _ _ _) _ _
  exact key mi hR (fun _ _ => rfl) (fun _ _ => rfl) hsd0 none none
end M13f
