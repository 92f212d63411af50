/-! the reference: days, who has been led, what is fed, the busiest hour -/
theorem dwn_dwn (s a : Nat) : ∀ i, dwn (dwn s a) i = dwn s (a + i) := by
  intro i
  induction i with
  | zero => rfl
  | succ i ih => rw [dwn, ih]; rfl
theorem sm_add (f : Nat → Nat) (a : Nat) : ∀ b, sm f (a + b) = sm f a + sm (fun i => f (a + i)) b := by
  intro b
  induction b with
  | zero => rfl
  | succ b ih => rw [← Nat.add_assoc, sm, ih, sm, Nat.add_assoc]
theorem fdr_add (t : TW) (who : Option Nat) (s a b : Nat) : fdr t who s (a + b) = fdr t who s a + fdr t who (dwn s a) b := by
  unfold fdr
  rw [sm_add]
  congr 2
  funext i; rw [dwn_dwn]
theorem fdr_le {t : TW} (hg : GB t) (who : Option Nat) (s n : Nat) : fdr t who s n ≤ n * 50000 := sm_le n (fun i _ => fdT_le hg who _)
section M13g
variable {G : GG} {post : PT} {mi : MI} {ml : ML} {mr : MR} {dom : List Nat} {M : Nat} {t : TW} {v : Nat → Nat}
theorem mx_dayB {x : Int32} (hX : XM mr) (hM : MM M) (hY : XT mr M) (hTn : mr 1000 3 = some M) (hg : GB t) (hW : WT t) (hR : RM mi M t) (hb : bad x 65537) (hp : post (some (.int (-1))) (rf mi (nI 2)) ml mr dom) : CT G 4 0 0 yX13_day cX13_day 2 (some .int) [.ref 1000, .int x] mi ml mr dom post := by
  have w := hW.1
  have hge := hM.ge
  refine enter 0 (by decide) rfl rfl (fun X => ?_)
  refine j_aload_n dX13_day_0 rfl rfl ?_
  refine j_iconst (v := nI 0) dX13_day_1 (by decide) ?_
  refine pI13_51 rfl dX13_day_2 ?_
  obtain ⟨m1, e1⟩ : ∃ m, m = up mi 1000 0 (nI 0) := ⟨_, rfl⟩
  rw [← e1]
  have hR1 : RM m1 M t := RM_lo hM (fun n hn => by rw [e1, up_off _ _ (by omega)]) hR
  refine j_aload_n dX13_day_5 rfl rfl ?_
  refine gR13_335 rfl dX13_day_6 hTn ?_
  refine j_ifnonnull (tgt := 18) dX13_day_9 (by decide) ?_
  refine j_iload_n dX13_day_18 rfl rfl ?_
  refine j_iconst (v := nI 0) dX13_day_19 (by decide) ?_
  refine j_ldcw wd2055 dX13_day_20 ?_
  rw [show (65536 : Int32) = nI 65536 from rfl]
  refine cS13_129 (d1 := 1) dX13_day_23 (by decide) (Nat.le_of_ble_eq_true rfl) ?_
  refine m_inB (bad_in (n := 65537) (by decide) (by decide) hb) ?_
  refine j_if_ne (tgt := 35) dX13_day_26 (by decide) (fun h26 => absurd (by decide) h26) (fun h26 => ?_)
  refine j_aload_n dX13_day_29 rfl rfl ?_
  refine j_iconst (v := nI 2) dX13_day_30 (by decide) ?_
  refine cV13_57 (d1 := 1) rfl dX13_day_31 (by decide) (Nat.le_of_ble_eq_true rfl) ?_
  refine m_refused ?_
  refine j_iret rfl dX13_day_34 ?_
  rw [e1]; exact hp
theorem mx_day {s : Nat} (hX : XM mr) (hM : MM M) (hY : XT mr M) (hTn : mr 1000 3 = some M) (hg : GB t) (hW : WT t) (hR : RM mi M t) (hLT : LT t) (h1 : s ≤ 65536) (hp : ∀ m : MI, off1 1000 m mi → (∀ j, j ≠ 0 → j ≠ 31 → m 1000 j = mi 1000 j) → m 1000 0 = 0 → post (some (.int (nI (fdr t none s (t 0 1 - t 0 0))))) (up (up m 1000 1 0) 1000 2 (-1)) ml mr dom) : CT G 4 0 0 yX13_day cX13_day 2 (some .int) [.ref 1000, .int (nI s)] mi ml mr dom post := by
  have w := hW.1
  have hge := hM.ge
  refine enter 0 (by decide) rfl rfl (fun X => ?_)
  refine j_aload_n dX13_day_0 rfl rfl ?_
  refine j_iconst (v := nI 0) dX13_day_1 (by decide) ?_
  refine pI13_51 rfl dX13_day_2 ?_
  obtain ⟨m1, e1⟩ : ∃ m, m = up mi 1000 0 (nI 0) := ⟨_, rfl⟩
  rw [← e1]
  have hR1 : RM m1 M t := RM_lo hM (fun n hn => by rw [e1, up_off _ _ (by omega)]) hR
  refine j_aload_n dX13_day_5 rfl rfl ?_
  refine gR13_335 rfl dX13_day_6 hTn ?_
  refine j_ifnonnull (tgt := 18) dX13_day_9 (by decide) ?_
  refine j_iload_n dX13_day_18 rfl rfl ?_
  refine j_iconst (v := nI 0) dX13_day_19 (by decide) ?_
  refine j_ldcw wd2055 dX13_day_20 ?_
  rw [show (65536 : Int32) = nI 65536 from rfl]
  refine cS13_129 (d1 := 1) dX13_day_23 (by decide) (Nat.le_of_ble_eq_true rfl) ?_
  refine m_inG (by show 0 ≤ s; omega) (by show s ≤ 65536; omega) (by decide) ?_
  refine j_if_ne (tgt := 35) dX13_day_26 (by decide) (fun h26 => ?_) (fun h26 => absurd h26 (by decide))
  refine j_aload_n dX13_day_35 rfl rfl ?_
  refine j_iload_n dX13_day_36 rfl rfl ?_
  refine pI13_481 rfl dX13_day_37 ?_
  refine j_aload_n dX13_day_40 rfl rfl ?_
  refine j_aload_n dX13_day_41 rfl rfl ?_
  refine j_bipush (v := -2) dX13_day_42 (by decide) ?_
  refine cV13_492 (d1 := 3) rfl dX13_day_44 (by decide) (Nat.le_of_ble_eq_true rfl) ?_
  refine m_runs (who := none) (s0 := s) hX hM hY hTn hg hW (RM_lo hM (fun n hn => up_off _ _ (by omega)) hR1) hLT (by omega) (fun p q => by cases q) (up_at _ _ _ _) (fun m ho hsl hsd => ?_)
  refine cV13_61 (d1 := 1) rfl dX13_day_47 (by decide) (Nat.le_of_ble_eq_true rfl) ?_
  refine m_fair ?_
  refine j_iret rfl dX13_day_50 ?_
  refine hp m (fun z hz => ?_) (fun j h0 h1 => ?_) ?_
  · rw [ho z hz, up_off _ _ hz, e1, up_off _ _ hz]
  · rw [hsl j h1, up_ne _ _ h1, e1, up_ne _ _ h0]
  · rw [hsl 0 (by decide), up_ne _ _ (by decide), e1, up_at]; rfl
theorem mx_dayOfB {x y z : Int32} (hX : XM mr) (hM : MM M) (hY : XT mr M) (hTn : mr 1000 3 = some M) (hg : GB t) (hW : WT t) (hR : RM mi M t) (hb : bad x (t 0 5)) (hp : post (some (.int (-1))) (rf mi (nI 1)) ml mr dom) : CT G 4 0 0 yX13_dayOf cX13_dayOf 6 (some .int) [.ref 1000, .int x, .int y, .int z] mi ml mr dom post := by
  have w := hW.1
  have hge := hM.ge
  refine enter 2 (by decide) rfl rfl (fun X => ?_)
  refine j_aload_n dX13_dayOf_0 rfl rfl ?_
  refine j_iconst (v := nI 0) dX13_dayOf_1 (by decide) ?_
  refine pI13_51 rfl dX13_dayOf_2 ?_
  obtain ⟨m1, e1⟩ : ∃ m, m = up mi 1000 0 (nI 0) := ⟨_, rfl⟩
  rw [← e1]
  have hR1 : RM m1 M t := RM_lo hM (fun n hn => by rw [e1, up_off _ _ (by omega)]) hR
  refine j_aload_n dX13_dayOf_5 rfl rfl ?_
  refine j_iload_n dX13_dayOf_6 rfl rfl ?_
  refine cV13_355 (d1 := 1) rfl dX13_dayOf_7 (by decide) (Nat.le_of_ble_eq_true rfl) ?_
  refine m_isPersonB hX hM hY hTn hg hW hR1 hb ?_
  refine j_if_ne (tgt := 19) dX13_dayOf_10 (by decide) (fun h10 => absurd (by decide) h10) (fun h10 => ?_)
  refine j_aload_n dX13_dayOf_13 rfl rfl ?_
  refine j_iconst (v := nI 1) dX13_dayOf_14 (by decide) ?_
  refine cV13_57 (d1 := 1) rfl dX13_dayOf_15 (by decide) (Nat.le_of_ble_eq_true rfl) ?_
  refine m_refused ?_
  refine j_iret rfl dX13_dayOf_18 ?_
  rw [e1]; exact hp
theorem mx_dayOfB2 {p : Nat} {y z : Int32} (hX : XM mr) (hM : MM M) (hY : XT mr M) (hTn : mr 1000 3 = some M) (hg : GB t) (hW : WT t) (hR : RM mi M t) (h1 : p < t 0 5) (hb : bad y 65537) (hp : post (some (.int (-1))) (rf mi (nI 2)) ml mr dom) : CT G 4 0 0 yX13_dayOf cX13_dayOf 6 (some .int) [.ref 1000, .int (nI p), .int y, .int z] mi ml mr dom post := by
  have w := hW.1
  have hge := hM.ge
  refine enter 2 (by decide) rfl rfl (fun X => ?_)
  refine j_aload_n dX13_dayOf_0 rfl rfl ?_
  refine j_iconst (v := nI 0) dX13_dayOf_1 (by decide) ?_
  refine pI13_51 rfl dX13_dayOf_2 ?_
  obtain ⟨m1, e1⟩ : ∃ m, m = up mi 1000 0 (nI 0) := ⟨_, rfl⟩
  rw [← e1]
  have hR1 : RM m1 M t := RM_lo hM (fun n hn => by rw [e1, up_off _ _ (by omega)]) hR
  refine j_aload_n dX13_dayOf_5 rfl rfl ?_
  refine j_iload_n dX13_dayOf_6 rfl rfl ?_
  refine cV13_355 (d1 := 1) rfl dX13_dayOf_7 (by decide) (Nat.le_of_ble_eq_true rfl) ?_
  refine m_isPersonG hX hM hY hTn hg hW hR1 (by omega) ?_
  refine j_if_ne (tgt := 19) dX13_dayOf_10 (by decide) (fun h10 => ?_) (fun h10 => absurd h10 (by decide))
  refine j_iload_n dX13_dayOf_19 rfl rfl ?_
  refine j_iconst (v := nI 0) dX13_dayOf_20 (by decide) ?_
  refine j_ldcw wd2055 dX13_dayOf_21 ?_
  rw [show (65536 : Int32) = nI 65536 from rfl]
  refine cS13_129 (d1 := 1) dX13_dayOf_24 (by decide) (Nat.le_of_ble_eq_true rfl) ?_
  refine m_inB (bad_in (n := 65537) (by decide) (by decide) hb) ?_
  refine j_if_eq (tgt := 40) dX13_dayOf_27 (by decide) (fun h27 => ?_) (fun h27 => absurd (by decide) h27)
  refine j_aload_n dX13_dayOf_40 rfl rfl ?_
  refine j_iconst (v := nI 2) dX13_dayOf_41 (by decide) ?_
  refine cV13_57 (d1 := 1) rfl dX13_dayOf_42 (by decide) (Nat.le_of_ble_eq_true rfl) ?_
  refine m_refused ?_
  refine j_iret rfl dX13_dayOf_45 ?_
  rw [e1]; exact hp
theorem mx_dayOfB3 {p s : Nat} {z : Int32} (hX : XM mr) (hM : MM M) (hY : XT mr M) (hTn : mr 1000 3 = some M) (hg : GB t) (hW : WT t) (hR : RM mi M t) (h1 : p < t 0 5) (h2 : s ≤ 65536) (hb : z < nI 1 ∨ nI 20 < z) (hp : post (some (.int (-1))) (rf mi (nI 2)) ml mr dom) : CT G 4 0 0 yX13_dayOf cX13_dayOf 6 (some .int) [.ref 1000, .int (nI p), .int (nI s), .int z] mi ml mr dom post := by
  have w := hW.1
  have hge := hM.ge
  refine enter 2 (by decide) rfl rfl (fun X => ?_)
  refine j_aload_n dX13_dayOf_0 rfl rfl ?_
  refine j_iconst (v := nI 0) dX13_dayOf_1 (by decide) ?_
  refine pI13_51 rfl dX13_dayOf_2 ?_
  obtain ⟨m1, e1⟩ : ∃ m, m = up mi 1000 0 (nI 0) := ⟨_, rfl⟩
  rw [← e1]
  have hR1 : RM m1 M t := RM_lo hM (fun n hn => by rw [e1, up_off _ _ (by omega)]) hR
  refine j_aload_n dX13_dayOf_5 rfl rfl ?_
  refine j_iload_n dX13_dayOf_6 rfl rfl ?_
  refine cV13_355 (d1 := 1) rfl dX13_dayOf_7 (by decide) (Nat.le_of_ble_eq_true rfl) ?_
  refine m_isPersonG hX hM hY hTn hg hW hR1 (by omega) ?_
  refine j_if_ne (tgt := 19) dX13_dayOf_10 (by decide) (fun h10 => ?_) (fun h10 => absurd h10 (by decide))
  refine j_iload_n dX13_dayOf_19 rfl rfl ?_
  refine j_iconst (v := nI 0) dX13_dayOf_20 (by decide) ?_
  refine j_ldcw wd2055 dX13_dayOf_21 ?_
  rw [show (65536 : Int32) = nI 65536 from rfl]
  refine cS13_129 (d1 := 1) dX13_dayOf_24 (by decide) (Nat.le_of_ble_eq_true rfl) ?_
  refine m_inG (by show 0 ≤ s; omega) (by show s ≤ 65536; omega) (by decide) ?_
  refine j_if_eq (tgt := 40) dX13_dayOf_27 (by decide) (fun h27 => absurd h27 (by decide)) (fun h27 => ?_)
  refine j_iload_n dX13_dayOf_30 rfl rfl ?_
  refine j_iconst (v := nI 1) dX13_dayOf_31 (by decide) ?_
  refine j_bipush (v := nI 20) dX13_dayOf_32 (by decide) ?_
  refine cS13_129 (d1 := 1) dX13_dayOf_34 (by decide) (Nat.le_of_ble_eq_true rfl) ?_
  refine m_inB hb ?_
  refine j_if_ne (tgt := 46) dX13_dayOf_37 (by decide) (fun h37 => absurd (by decide) h37) (fun h37 => ?_)
  refine j_aload_n dX13_dayOf_40 rfl rfl ?_
  refine j_iconst (v := nI 2) dX13_dayOf_41 (by decide) ?_
  refine cV13_57 (d1 := 1) rfl dX13_dayOf_42 (by decide) (Nat.le_of_ble_eq_true rfl) ?_
  refine m_refused ?_
  refine j_iret rfl dX13_dayOf_45 ?_
  rw [e1]; exact hp
theorem mx_dayOf {p s n : Nat} (hX : XM mr) (hM : MM M) (hY : XT mr M) (hTn : mr 1000 3 = some M) (hg : GB t) (hW : WT t) (hR : RM mi M t) (hLT : LT t) (h1 : p < t 0 5) (h2 : s ≤ 65536) (h3 : 1 ≤ n) (h4 : n ≤ 20) (hp : ∀ m : MI, off1 1000 m mi → (∀ j, j ≠ 0 → j ≠ 31 → m 1000 j = mi 1000 j) → m 1000 0 = 0 → post (some (.int (nI (fdr t (some p) s (n * (t 0 1 - t 0 0)))))) (up (up m 1000 1 0) 1000 2 (-1)) ml mr dom) : CT G 4 0 0 yX13_dayOf cX13_dayOf 6 (some .int) [.ref 1000, .int (nI p), .int (nI s), .int (nI n)] mi ml mr dom post := by
  have w := hW.1
  have hge := hM.ge
  refine enter 2 (by decide) rfl rfl (fun X => ?_)
  refine j_aload_n dX13_dayOf_0 rfl rfl ?_
  refine j_iconst (v := nI 0) dX13_dayOf_1 (by decide) ?_
  refine pI13_51 rfl dX13_dayOf_2 ?_
  obtain ⟨m1, e1⟩ : ∃ m, m = up mi 1000 0 (nI 0) := ⟨_, rfl⟩
  rw [← e1]
  have hR1 : RM m1 M t := RM_lo hM (fun n hn => by rw [e1, up_off _ _ (by omega)]) hR
  refine j_aload_n dX13_dayOf_5 rfl rfl ?_
  refine j_iload_n dX13_dayOf_6 rfl rfl ?_
  refine cV13_355 (d1 := 1) rfl dX13_dayOf_7 (by decide) (Nat.le_of_ble_eq_true rfl) ?_
  refine m_isPersonG hX hM hY hTn hg hW hR1 (by omega) ?_
  refine j_if_ne (tgt := 19) dX13_dayOf_10 (by decide) (fun h10 => ?_) (fun h10 => absurd h10 (by decide))
  refine j_iload_n dX13_dayOf_19 rfl rfl ?_
  refine j_iconst (v := nI 0) dX13_dayOf_20 (by decide) ?_
  refine j_ldcw wd2055 dX13_dayOf_21 ?_
  rw [show (65536 : Int32) = nI 65536 from rfl]
  refine cS13_129 (d1 := 1) dX13_dayOf_24 (by decide) (Nat.le_of_ble_eq_true rfl) ?_
  refine m_inG (by show 0 ≤ s; omega) (by show s ≤ 65536; omega) (by decide) ?_
  refine j_if_eq (tgt := 40) dX13_dayOf_27 (by decide) (fun h27 => absurd h27 (by decide)) (fun h27 => ?_)
  refine j_iload_n dX13_dayOf_30 rfl rfl ?_
  refine j_iconst (v := nI 1) dX13_dayOf_31 (by decide) ?_
  refine j_bipush (v := nI 20) dX13_dayOf_32 (by decide) ?_
  refine cS13_129 (d1 := 1) dX13_dayOf_34 (by decide) (Nat.le_of_ble_eq_true rfl) ?_
  refine m_inG (by show 1 ≤ n; omega) (by show n ≤ 20; omega) (by decide) ?_
  refine j_if_ne (tgt := 46) dX13_dayOf_37 (by decide) (fun h37 => ?_) (fun h37 => absurd h37 (by decide))
  refine j_aload_n dX13_dayOf_46 rfl rfl ?_
  refine j_iload_n dX13_dayOf_47 rfl rfl ?_
  refine pI13_481 rfl dX13_dayOf_48 ?_
  refine j_iconst (v := nI 0) dX13_dayOf_51 (by decide) ?_
  refine j_istore (lv2 := [_, _, _, _, _, _]) dX13_dayOf_52 (by decide) rfl rfl ?_
  refine j_iconst (v := nI 0) dX13_dayOf_54 (by decide) ?_
  refine j_istore (lv2 := [_, _, _, _, _, _]) dX13_dayOf_55 (by decide) rfl rfl ?_
  have hfb : ∀ i, i ≤ n → fdr t (some p) s (i * (t 0 1 - t 0 0)) ≤ 20 * 22 * 50000 := fun i hi => by
    refine Nat.le_trans (fdr_le hg (some p) s (i * (t 0 1 - t 0 0))) (Nat.mul_le_mul_right 50000 ?_)
    exact Nat.mul_le_mul (by omega) (by omega)
  obtain ⟨m0, e0⟩ : ∃ m, m = up m1 1000 31 (nI s) := ⟨_, rfl⟩
  rw [← e0]
  have hR0 : RM m0 M t := RM_lo hM (fun n hn => by rw [e0, up_off _ _ (by omega)]) hR1
  have hs0 : m0 1000 31 = nI (dwn s (0 * (t 0 1 - t 0 0))) := by rw [e0, up_at, Nat.zero_mul]; rfl
  rw [e1] at e0
  clear hR1 e1
  have e1 := e0
  have key : ∀ m : MI, RM m M t → off1 1000 m m0 → (∀ j, j ≠ 31 → m 1000 j = m0 1000 j) → m 1000 31 = nI (dwn s (0 * (t 0 1 - t 0 0))) → J cX13_dayOf 6 yX13_dayOf.cls yX13_dayOf.name (some .int) 4 G X post 0 0 m ml mr dom 57 [some (.ref 1000), some (.int (nI p)), some (.int (nI s)), some (.int (nI n)), some (.int (nI (fdr t (some p) s (0 * (t 0 1 - t 0 0))))), some (.int (nI 0))] [] := by
    refine lq (n := n) (H := fun i => ∀ m : MI, RM m M t → off1 1000 m m0 → (∀ j, j ≠ 31 → m 1000 j = m0 1000 j) → m 1000 31 = nI (dwn s (i * (t 0 1 - t 0 0))) → J cX13_dayOf 6 yX13_dayOf.cls yX13_dayOf.name (some .int) 4 G X post 0 0 m ml mr dom 57 [some (.ref 1000), some (.int (nI p)), some (.int (nI s)), some (.int (nI n)), some (.int (nI (fdr t (some p) s (i * (t 0 1 - t 0 0))))), some (.int (nI i))] []) (fun m hRm ho hsl hsd => ?_) (fun i hi ih m hRm ho hsl hsd => ?_)
    · skip
      refine j_iload dX13_dayOf_57 rfl ?_
      refine j_iload_n dX13_dayOf_59 rfl rfl ?_
      refine j_icmp_ge (tgt := 79) dX13_dayOf_60 (by decide) (fun h60 => ?_) (fun h60 => by exfalso; rw [nI_leI (by omega) (by omega)] at h60; omega)
      refine j_aload_n dX13_dayOf_79 rfl rfl ?_
      refine j_iload dX13_dayOf_80 rfl ?_
      refine cV13_61 (d1 := 1) rfl dX13_dayOf_82 (by decide) (Nat.le_of_ble_eq_true rfl) ?_
      refine m_fair ?_
      refine j_iret rfl dX13_dayOf_85 ?_
      refine hp m (fun z hz => ?_) (fun j h0 h1 => ?_) ?_
      · rw [ho z hz, e1, up_off _ _ hz, up_off _ _ hz]
      · rw [hsl j h1, e1, up_ne _ _ h1, up_ne _ _ h0]
      · rw [hsl 0 (by decide), e1, up_ne _ _ (by decide), up_at]; rfl
    · skip
      refine j_iload dX13_dayOf_57 rfl ?_
      refine j_iload_n dX13_dayOf_59 rfl rfl ?_
      refine j_icmp_ge (tgt := 79) dX13_dayOf_60 (by decide) (fun h60 => by exfalso; rw [nI_leI (by omega) (by omega)] at h60; omega) (fun h60 => ?_)
      have hb1 := hfb i (by omega)
      have hb2 := fdr_le hg (some p) (dwn s (i * (t 0 1 - t 0 0))) (t 0 1 - t 0 0)
      have hb3 : (t 0 1 - t 0 0) * 50000 ≤ 1100000 := by omega
      refine j_iload dX13_dayOf_63 rfl ?_
      refine j_aload_n dX13_dayOf_65 rfl rfl ?_
      refine j_iload_n dX13_dayOf_66 rfl rfl ?_
      refine cV13_492 (d1 := 3) rfl dX13_dayOf_67 (by decide) (Nat.le_of_ble_eq_true rfl) ?_
      refine m_runs (who := some p) (s0 := dwn s (i * (t 0 1 - t 0 0))) hX hM hY hTn hg hW hRm hLT (dwn_le (by omega) _) (fun q hq => by cases hq; omega) hsd (fun m2 ho2 hsl2 hsd2 => ?_)
      refine j_iadd dX13_dayOf_70 ?_
      rw [nI_add]
      refine j_istore (lv2 := [_, _, _, _, _, _]) dX13_dayOf_71 (by decide) rfl rfl ?_
      refine j_iinc1 (lv2 := [_, _, _, _, _, _]) dX13_dayOf_73 rfl (by decide) rfl rfl ?_
      rw [nI_1]
      refine j_goto (tgt := 57) dX13_dayOf_76 (by decide) ?_
      rw [← fdr_add, show i * (t 0 1 - t 0 0) + (t 0 1 - t 0 0) = (i + 1) * (t 0 1 - t 0 0) by rw [Nat.succ_mul]]
      refine ih m2 (RM_lo hM (fun n hn => ho2 n (by omega)) hRm) (fun z hz => (ho2 z hz).trans (ho z hz)) (fun j hj => (hsl2 j hj).trans (hsl j hj)) ?_
      rw [hsd2, dwn_dwn, Nat.succ_mul]
  have k0 := key m0 hR0 (fun _ _ => rfl) (fun _ _ => rfl) hs0
  rw [Nat.zero_mul] at k0
  exact k0
/-- the good that is asked for among those that lie where they must -/
def LED (t : TW) (v : Nat → Nat) (x : Int32) (g : Nat) : Prop := mgo t v g = false ∧ nI (cnt (fun j => !mgo t v j) g) = x
theorem mx_led {x : Int32} (hX : XM mr) (hM : MM M) (hY : XT mr M) (hTn : mr 1000 3 = some M) (hg : GB t) (hW : WT t) (hR : RM mi M t) (hV : VM mi t v) (hp1 : ∀ g, g < t 0 6 → LED t v x g → post (some (.int (nI g))) (up mi 1000 0 0) ml mr dom) (hp : (∀ g, g < t 0 6 → ¬ LED t v x g) → post (some (.int 0)) (up (up mi 1000 0 0) 1000 0 1) ml mr dom) : CT G 2 0 0 yX13_led cX13_led 4 (some .int) [.ref 1000, .int x] mi ml mr dom post := by
  have w := hW.1
  have hge := hM.ge
  refine enter 2 (by decide) rfl rfl (fun X => ?_)
  refine j_aload_n dX13_led_0 rfl rfl ?_
  refine j_iconst (v := nI 0) dX13_led_1 (by decide) ?_
  refine pI13_51 rfl dX13_led_2 ?_
  obtain ⟨m1, e1⟩ : ∃ m, m = up mi 1000 0 (nI 0) := ⟨_, rfl⟩
  rw [← e1]
  have hR1 : RM m1 M t := RM_lo hM (fun n hn => by rw [e1, up_off _ _ (by omega)]) hR
  have hV1 : VM m1 t v := VM_off (by rw [e1, up_off _ _ (by decide)]) hV
  refine j_iconst (v := nI 0) dX13_led_5 (by decide) ?_
  refine j_istore_n (lv2 := [_, _, _, _]) dX13_led_6 rfl (by decide) rfl rfl ?_
  refine j_iconst (v := nI 0) dX13_led_7 (by decide) ?_
  refine j_istore_n (lv2 := [_, _, _, _]) dX13_led_8 rfl (by decide) rfl rfl ?_
  refine lp (n := t 0 6) (Q := fun i => ∀ j, j < i → ¬ LED t v x j) (H := fun i => J cX13_led 4 yX13_led.cls yX13_led.name (some .int) 2 G X post 0 0 m1 ml mr dom 9 [some (.ref 1000), some (.int x), some (.int (nI (cnt (fun j => !mgo t v j) i))), some (.int (nI i))] []) (fun hq => ?_) (fun i hi hq ih => ?_) (fun j hj => absurd hj (by omega))
  · skip
    refine j_aload_n dX13_led_9 rfl rfl ?_
    refine gR13_335 rfl dX13_led_10 hTn ?_
    refine j_ifnull dX13_led_13 ?_
    refine j_iload_n dX13_led_16 rfl rfl ?_
    refine j_aload_n dX13_led_17 rfl rfl ?_
    refine gR13_335 rfl dX13_led_18 hTn ?_
    refine gI13_288 (kM0 hM) dX13_led_21 ?_
    rw [hR1.1 6 (by decide)]
    refine j_icmp_ge (tgt := 54) dX13_led_24 (by decide) (fun h24 => ?_) (fun h24 => by exfalso; rw [nI_leI (by have := hg 0 6; omega) (by have := hg 0 6; omega)] at h24; have := hg 0 6; omega)
    refine j_aload_n dX13_led_54 rfl rfl ?_
    refine j_iconst (v := nI 1) dX13_led_55 (by decide) ?_
    refine pI13_51 rfl dX13_led_56 ?_
    refine j_iconst (v := nI 0) dX13_led_59 (by decide) ?_
    refine j_iret rfl dX13_led_60 ?_
    rw [e1]; exact hp hq
  · skip
    refine j_aload_n dX13_led_9 rfl rfl ?_
    refine gR13_335 rfl dX13_led_10 hTn ?_
    refine j_ifnull dX13_led_13 ?_
    refine j_iload_n dX13_led_16 rfl rfl ?_
    refine j_aload_n dX13_led_17 rfl rfl ?_
    refine gR13_335 rfl dX13_led_18 hTn ?_
    refine gI13_288 (kM0 hM) dX13_led_21 ?_
    rw [hR1.1 6 (by decide)]
    refine j_icmp_ge (tgt := 54) dX13_led_24 (by decide) (fun h24 => by exfalso; rw [nI_leI (by have := hg 0 6; omega) (by omega)] at h24; have := hg 0 6; omega) (fun h24 => ?_)
    refine j_aload_n dX13_led_27 rfl rfl ?_
    refine j_iload_n dX13_led_28 rfl rfl ?_
    refine cV13_432 (d1 := 1) rfl dX13_led_29 (by decide) (Nat.le_of_ble_eq_true rfl) ?_
    refine m_mustGo hX hM hY hTn hg hW hR1 hV1 (by omega) ?_
    refine j_if_eq (tgt := 38) dX13_led_32 (by decide) (fun h32 => ?_) (fun h32 => ?_)
    all_goals rw [bN_eq0] at h32
    · refine j_iload_n dX13_led_38 rfl rfl ?_
      refine j_iload_n dX13_led_39 rfl rfl ?_
      refine j_icmp_ne (tgt := 45) dX13_led_40 (by decide) (fun h40 => ?_) (fun h40 => ?_)
      · refine j_iinc1 (lv2 := [_, _, _, _]) dX13_led_45 rfl (by decide) rfl rfl ?_
        rw [nI_1]
        refine j_iinc1 (lv2 := [_, _, _, _]) dX13_led_48 rfl (by decide) rfl rfl ?_
        rw [nI_1]
        refine j_goto (tgt := 9) dX13_led_51 (by decide) ?_
        have c1 : cnt (fun j => !mgo t v j) (i + 1) = cnt (fun j => !mgo t v j) i + 1 := if_pos (by show (!mgo t v i) = true; rw [h32]; rfl)
        rw [c1] at ih
        refine ih (fun j hj hl => ?_)
        by_cases q : j = i
        · subst q; exact h40 hl.2
        · exact hq j (by omega) hl
      · refine j_iload_n dX13_led_43 rfl rfl ?_
        refine j_iret rfl dX13_led_44 ?_
        rw [e1]; exact hp1 i hi ⟨h32, h40⟩
    · refine j_goto (tgt := 48) dX13_led_35 (by decide) ?_
      refine j_iinc1 (lv2 := [_, _, _, _]) dX13_led_48 rfl (by decide) rfl rfl ?_
      rw [nI_1]
      refine j_goto (tgt := 9) dX13_led_51 (by decide) ?_
      have c1 : cnt (fun j => !mgo t v j) (i + 1) = cnt (fun j => !mgo t v j) i := if_neg (by show ¬ (!mgo t v i) = true; rw [Bool.not_eq_false] at h32; rw [h32]; decide)
      rw [c1] at ih
      refine ih (fun j hj hl => ?_)
      by_cases q : j = i
      · subst q; exact h32 hl.1
      · exact hq j (by omega) hl
theorem mx_ledN {x : Int32} (hTn : mr 1000 3 = none)  (hp : post (some (.int 0)) (up (up mi 1000 0 0) 1000 0 1) ml mr dom) : CT G 2 0 0 yX13_led cX13_led 4 (some .int) [.ref 1000, .int x] mi ml mr dom post := by
  refine enter 2 (by decide) rfl rfl (fun X => ?_)
  refine j_aload_n dX13_led_0 rfl rfl ?_
  refine j_iconst (v := nI 0) dX13_led_1 (by decide) ?_
  refine pI13_51 rfl dX13_led_2 ?_
  obtain ⟨m1, e1⟩ : ∃ m, m = up mi 1000 0 (nI 0) := ⟨_, rfl⟩
  rw [← e1]
  refine j_iconst (v := nI 0) dX13_led_5 (by decide) ?_
  refine j_istore_n (lv2 := [_, _, _, _]) dX13_led_6 rfl (by decide) rfl rfl ?_
  refine j_iconst (v := nI 0) dX13_led_7 (by decide) ?_
  refine j_istore_n (lv2 := [_, _, _, _]) dX13_led_8 rfl (by decide) rfl rfl ?_
  refine j_aload_n dX13_led_9 rfl rfl ?_
  refine gN13_335 rfl dX13_led_10 hTn ?_
  refine j_ifnullN (tgt := 54) dX13_led_13 (by decide) ?_
  refine j_aload_n dX13_led_54 rfl rfl ?_
  refine j_iconst (v := nI 1) dX13_led_55 (by decide) ?_
  refine pI13_51 rfl dX13_led_56 ?_
  refine j_iconst (v := nI 0) dX13_led_59 (by decide) ?_
  refine j_iret rfl dX13_led_60 ?_
  rw [e1]; exact hp
theorem mx_feed {k : Nat} {a b c d e : Int32}  (hX : XM mr) (h_taped : mi 1000 6 = nI k) (hk : k + 20 ≤ 1100) (hp : ∀ m : MI, (∀ z, z ≠ 1000 → z ≠ 1001 → m z = mi z) → m 1001 = pb (pb (pb (pb (pb (mi 1001) k a) (k + 4) b) (k + 8) c) (k + 12) d) (k + 16) e → m 1000 6 = nI (k + 20) → m 1000 0 = 0 → (∀ j, j ≠ 0 → j ≠ 6 → m 1000 j = mi 1000 j) → post (some (.int (nI (k + 20)))) m ml mr dom) : CT G 1 0 0 yX13_feed cX13_feed 8 (some .int) [.ref 1000, .int a, .int b, .int c, .int d, .int e] mi ml mr dom post := by
  refine enter 2 (by decide) rfl rfl (fun X => ?_)
  refine j_aload_n dX13_feed_0 rfl rfl ?_
  refine j_iconst (v := nI 0) dX13_feed_1 (by decide) ?_
  refine pI13_51 rfl dX13_feed_2 ?_
  obtain ⟨m1, e1⟩ : ∃ m, m = up mi 1000 0 (nI 0) := ⟨_, rfl⟩
  rw [← e1]
  refine j_aload_n dX13_feed_5 rfl rfl ?_
  refine gI13_328 rfl dX13_feed_6 ?_
  rw [show m1 1000 6 = nI (k + 0) by rw [e1, up_ne _ _ (by decide)]; exact h_taped]
  refine j_bipush (v := nI 20) dX13_feed_9 (by decide) ?_
  refine j_iadd dX13_feed_11 ?_
  rw [nI_add]
  refine j_sipush (v := nI 1100) dX13_feed_12 (by decide) ?_
  refine j_icmp_le (tgt := 20) dX13_feed_15 (by decide) (fun h15 => ?_) (fun h15 => by exfalso; rw [nI_leI (by omega) (by omega)] at h15; omega)
  obtain ⟨n0, q0⟩ : ∃ m, m = m1 := ⟨_, rfl⟩
  rw [← q0]
  have a0 : n0 1000 6 = nI (k + 0) := by rw [q0, e1, up_ne _ _ (by decide)]; exact h_taped
  have o0 : ∀ z, z ≠ 1000 → z ≠ 1001 → n0 z = m1 z := fun z _ _ => by rw [q0]
  have z0 : ∀ i, i ≠ 6 → n0 1000 i = m1 1000 i := fun i _ => by rw [q0]
  refine j_iconst (v := nI 0) dX13_feed_20 (by decide) ?_
  refine j_istore (lv2 := [_, _, _, _, _, _, _, _]) dX13_feed_21 (by decide) rfl rfl ?_
  refine j_iload dX13_feed_23 rfl ?_
  refine j_bipush (v := nI 20) dX13_feed_25 (by decide) ?_
  refine j_icmp_ge (tgt := 117) dX13_feed_27 (by decide) (fun h27 => absurd h27 (by decide)) (fun h27 => ?_)
  refine j_iload dX13_feed_30 rfl ?_
  refine j_iconst (v := nI 4) dX13_feed_32 (by decide) ?_
  refine j_icmp_ge (tgt := 40) dX13_feed_33 (by decide) (fun h33 => absurd h33 (by decide)) (fun h33 => ?_)
  refine j_iload_n dX13_feed_36 rfl rfl ?_
  refine j_goto (tgt := 76) dX13_feed_37 (by decide) ?_
  refine j_istore (lv2 := [_, _, _, _, _, _, _, _]) dX13_feed_76 (by decide) rfl rfl ?_
  refine j_aload_n dX13_feed_78 rfl rfl ?_
  refine gR13_13 rfl dX13_feed_79 (x1001 hX) ?_
  refine j_aload_n dX13_feed_82 rfl rfl ?_
  refine gI13_328 rfl dX13_feed_83 ?_
  rw [a0]
  refine j_iload dX13_feed_86 rfl ?_
  refine j_bipush (v := nI 24) dX13_feed_88 (by decide) ?_
  refine j_bipush (v := nI 8) dX13_feed_90 (by decide) ?_
  refine j_iload dX13_feed_92 rfl ?_
  refine j_iconst (v := nI 4) dX13_feed_94 (by decide) ?_
  refine j_irem dX13_feed_95 (by decide) ?_
  rw [show nI 0 - nI 0 / nI 4 * nI 4 = nI 0 by decide]
  refine j_imul dX13_feed_96 ?_
  rw [show nI 8 * nI 0 = nI 0 by decide]
  refine j_isub dX13_feed_97 ?_
  rw [show nI 24 - nI 0 = nI 24 by decide]
  refine j_ishr dX13_feed_98 ?_
  refine j_i2b dX13_feed_99 ?_
  refine j_bast rfl (inT (show ln 1001 = 1100 from rfl) (show k + 0 < 1100 by omega) (by decide)) dX13_feed_100 ?_
  rw [nI_clamp (by omega)]
  refine j_aload_n dX13_feed_101 rfl rfl ?_
  refine j_dup dX13_feed_102 rfl ?_
  refine gI13_328 rfl dX13_feed_103 ?_
  rw [up_off _ _ (by decide), a0]
  refine j_iconst (v := nI 1) dX13_feed_106 (by decide) ?_
  refine j_iadd dX13_feed_107 ?_
  rw [nI_add]
  refine pI13_328 rfl dX13_feed_108 ?_
  obtain ⟨n1, q1⟩ : ∃ m, m = up (up n0 1001 (k + 0) (bv a 24)) 1000 6 (nI (k + 0 + 1)) := ⟨_, rfl⟩
  rw [show up (up n0 1001 (k + 0) (((a >>> (nI 24 &&& 31)).toInt8.toInt32).toInt8.toInt32)) 1000 6 (nI (k + 0 + 1)) = n1 from q1.symm]
  have a1 : n1 1000 6 = nI (k + 1) := by rw [q1, up_at]
  have o1 : ∀ z, z ≠ 1000 → z ≠ 1001 → n1 z = m1 z := fun z h0 h1 => by rw [q1, up_off _ _ h0, up_off _ _ h1]; exact o0 z h0 h1
  have z1 : ∀ i, i ≠ 6 → n1 1000 i = m1 1000 i := fun i hi => by rw [q1, up_ne _ _ hi, up_off _ _ (by decide)]; exact z0 i hi
  have t1 : n1 1001 = upd (n0 1001) (k + 0) (bv a 24) := by rw [q1, up_off _ _ (by decide), up_row]
  refine j_iinc1 (lv2 := [_, _, _, _, _, _, _, _]) dX13_feed_111 rfl (by decide) rfl rfl ?_
  rw [show nI 0 + 1 = nI 1 from rfl]
  refine j_goto (tgt := 23) dX13_feed_114 (by decide) ?_
  refine j_iload dX13_feed_23 rfl ?_
  refine j_bipush (v := nI 20) dX13_feed_25 (by decide) ?_
  refine j_icmp_ge (tgt := 117) dX13_feed_27 (by decide) (fun h27 => absurd h27 (by decide)) (fun h27 => ?_)
  refine j_iload dX13_feed_30 rfl ?_
  refine j_iconst (v := nI 4) dX13_feed_32 (by decide) ?_
  refine j_icmp_ge (tgt := 40) dX13_feed_33 (by decide) (fun h33 => absurd h33 (by decide)) (fun h33 => ?_)
  refine j_iload_n dX13_feed_36 rfl rfl ?_
  refine j_goto (tgt := 76) dX13_feed_37 (by decide) ?_
  refine j_istore (lv2 := [_, _, _, _, _, _, _, _]) dX13_feed_76 (by decide) rfl rfl ?_
  refine j_aload_n dX13_feed_78 rfl rfl ?_
  refine gR13_13 rfl dX13_feed_79 (x1001 hX) ?_
  refine j_aload_n dX13_feed_82 rfl rfl ?_
  refine gI13_328 rfl dX13_feed_83 ?_
  rw [a1]
  refine j_iload dX13_feed_86 rfl ?_
  refine j_bipush (v := nI 24) dX13_feed_88 (by decide) ?_
  refine j_bipush (v := nI 8) dX13_feed_90 (by decide) ?_
  refine j_iload dX13_feed_92 rfl ?_
  refine j_iconst (v := nI 4) dX13_feed_94 (by decide) ?_
  refine j_irem dX13_feed_95 (by decide) ?_
  rw [show nI 1 - nI 1 / nI 4 * nI 4 = nI 1 by decide]
  refine j_imul dX13_feed_96 ?_
  rw [show nI 8 * nI 1 = nI 8 by decide]
  refine j_isub dX13_feed_97 ?_
  rw [show nI 24 - nI 8 = nI 16 by decide]
  refine j_ishr dX13_feed_98 ?_
  refine j_i2b dX13_feed_99 ?_
  refine j_bast rfl (inT (show ln 1001 = 1100 from rfl) (show k + 1 < 1100 by omega) (by decide)) dX13_feed_100 ?_
  rw [nI_clamp (by omega)]
  refine j_aload_n dX13_feed_101 rfl rfl ?_
  refine j_dup dX13_feed_102 rfl ?_
  refine gI13_328 rfl dX13_feed_103 ?_
  rw [up_off _ _ (by decide), a1]
  refine j_iconst (v := nI 1) dX13_feed_106 (by decide) ?_
  refine j_iadd dX13_feed_107 ?_
  rw [nI_add]
  refine pI13_328 rfl dX13_feed_108 ?_
  obtain ⟨n2, q2⟩ : ∃ m, m = up (up n1 1001 (k + 1) (bv a 16)) 1000 6 (nI (k + 1 + 1)) := ⟨_, rfl⟩
  rw [show up (up n1 1001 (k + 1) (((a >>> (nI 16 &&& 31)).toInt8.toInt32).toInt8.toInt32)) 1000 6 (nI (k + 1 + 1)) = n2 from q2.symm]
  have a2 : n2 1000 6 = nI (k + 2) := by rw [q2, up_at]
  have o2 : ∀ z, z ≠ 1000 → z ≠ 1001 → n2 z = m1 z := fun z h0 h1 => by rw [q2, up_off _ _ h0, up_off _ _ h1]; exact o1 z h0 h1
  have z2 : ∀ i, i ≠ 6 → n2 1000 i = m1 1000 i := fun i hi => by rw [q2, up_ne _ _ hi, up_off _ _ (by decide)]; exact z1 i hi
  have t2 : n2 1001 = upd (n1 1001) (k + 1) (bv a 16) := by rw [q2, up_off _ _ (by decide), up_row]
  refine j_iinc1 (lv2 := [_, _, _, _, _, _, _, _]) dX13_feed_111 rfl (by decide) rfl rfl ?_
  rw [show nI 1 + 1 = nI 2 from rfl]
  refine j_goto (tgt := 23) dX13_feed_114 (by decide) ?_
  refine j_iload dX13_feed_23 rfl ?_
  refine j_bipush (v := nI 20) dX13_feed_25 (by decide) ?_
  refine j_icmp_ge (tgt := 117) dX13_feed_27 (by decide) (fun h27 => absurd h27 (by decide)) (fun h27 => ?_)
  refine j_iload dX13_feed_30 rfl ?_
  refine j_iconst (v := nI 4) dX13_feed_32 (by decide) ?_
  refine j_icmp_ge (tgt := 40) dX13_feed_33 (by decide) (fun h33 => absurd h33 (by decide)) (fun h33 => ?_)
  refine j_iload_n dX13_feed_36 rfl rfl ?_
  refine j_goto (tgt := 76) dX13_feed_37 (by decide) ?_
  refine j_istore (lv2 := [_, _, _, _, _, _, _, _]) dX13_feed_76 (by decide) rfl rfl ?_
  refine j_aload_n dX13_feed_78 rfl rfl ?_
  refine gR13_13 rfl dX13_feed_79 (x1001 hX) ?_
  refine j_aload_n dX13_feed_82 rfl rfl ?_
  refine gI13_328 rfl dX13_feed_83 ?_
  rw [a2]
  refine j_iload dX13_feed_86 rfl ?_
  refine j_bipush (v := nI 24) dX13_feed_88 (by decide) ?_
  refine j_bipush (v := nI 8) dX13_feed_90 (by decide) ?_
  refine j_iload dX13_feed_92 rfl ?_
  refine j_iconst (v := nI 4) dX13_feed_94 (by decide) ?_
  refine j_irem dX13_feed_95 (by decide) ?_
  rw [show nI 2 - nI 2 / nI 4 * nI 4 = nI 2 by decide]
  refine j_imul dX13_feed_96 ?_
  rw [show nI 8 * nI 2 = nI 16 by decide]
  refine j_isub dX13_feed_97 ?_
  rw [show nI 24 - nI 16 = nI 8 by decide]
  refine j_ishr dX13_feed_98 ?_
  refine j_i2b dX13_feed_99 ?_
  refine j_bast rfl (inT (show ln 1001 = 1100 from rfl) (show k + 2 < 1100 by omega) (by decide)) dX13_feed_100 ?_
  rw [nI_clamp (by omega)]
  refine j_aload_n dX13_feed_101 rfl rfl ?_
  refine j_dup dX13_feed_102 rfl ?_
  refine gI13_328 rfl dX13_feed_103 ?_
  rw [up_off _ _ (by decide), a2]
  refine j_iconst (v := nI 1) dX13_feed_106 (by decide) ?_
  refine j_iadd dX13_feed_107 ?_
  rw [nI_add]
  refine pI13_328 rfl dX13_feed_108 ?_
  obtain ⟨n3, q3⟩ : ∃ m, m = up (up n2 1001 (k + 2) (bv a 8)) 1000 6 (nI (k + 2 + 1)) := ⟨_, rfl⟩
  rw [show up (up n2 1001 (k + 2) (((a >>> (nI 8 &&& 31)).toInt8.toInt32).toInt8.toInt32)) 1000 6 (nI (k + 2 + 1)) = n3 from q3.symm]
  have a3 : n3 1000 6 = nI (k + 3) := by rw [q3, up_at]
  have o3 : ∀ z, z ≠ 1000 → z ≠ 1001 → n3 z = m1 z := fun z h0 h1 => by rw [q3, up_off _ _ h0, up_off _ _ h1]; exact o2 z h0 h1
  have z3 : ∀ i, i ≠ 6 → n3 1000 i = m1 1000 i := fun i hi => by rw [q3, up_ne _ _ hi, up_off _ _ (by decide)]; exact z2 i hi
  have t3 : n3 1001 = upd (n2 1001) (k + 2) (bv a 8) := by rw [q3, up_off _ _ (by decide), up_row]
  refine j_iinc1 (lv2 := [_, _, _, _, _, _, _, _]) dX13_feed_111 rfl (by decide) rfl rfl ?_
  rw [show nI 2 + 1 = nI 3 from rfl]
  refine j_goto (tgt := 23) dX13_feed_114 (by decide) ?_
  refine j_iload dX13_feed_23 rfl ?_
  refine j_bipush (v := nI 20) dX13_feed_25 (by decide) ?_
  refine j_icmp_ge (tgt := 117) dX13_feed_27 (by decide) (fun h27 => absurd h27 (by decide)) (fun h27 => ?_)
  refine j_iload dX13_feed_30 rfl ?_
  refine j_iconst (v := nI 4) dX13_feed_32 (by decide) ?_
  refine j_icmp_ge (tgt := 40) dX13_feed_33 (by decide) (fun h33 => absurd h33 (by decide)) (fun h33 => ?_)
  refine j_iload_n dX13_feed_36 rfl rfl ?_
  refine j_goto (tgt := 76) dX13_feed_37 (by decide) ?_
  refine j_istore (lv2 := [_, _, _, _, _, _, _, _]) dX13_feed_76 (by decide) rfl rfl ?_
  refine j_aload_n dX13_feed_78 rfl rfl ?_
  refine gR13_13 rfl dX13_feed_79 (x1001 hX) ?_
  refine j_aload_n dX13_feed_82 rfl rfl ?_
  refine gI13_328 rfl dX13_feed_83 ?_
  rw [a3]
  refine j_iload dX13_feed_86 rfl ?_
  refine j_bipush (v := nI 24) dX13_feed_88 (by decide) ?_
  refine j_bipush (v := nI 8) dX13_feed_90 (by decide) ?_
  refine j_iload dX13_feed_92 rfl ?_
  refine j_iconst (v := nI 4) dX13_feed_94 (by decide) ?_
  refine j_irem dX13_feed_95 (by decide) ?_
  rw [show nI 3 - nI 3 / nI 4 * nI 4 = nI 3 by decide]
  refine j_imul dX13_feed_96 ?_
  rw [show nI 8 * nI 3 = nI 24 by decide]
  refine j_isub dX13_feed_97 ?_
  rw [show nI 24 - nI 24 = nI 0 by decide]
  refine j_ishr dX13_feed_98 ?_
  refine j_i2b dX13_feed_99 ?_
  refine j_bast rfl (inT (show ln 1001 = 1100 from rfl) (show k + 3 < 1100 by omega) (by decide)) dX13_feed_100 ?_
  rw [nI_clamp (by omega)]
  refine j_aload_n dX13_feed_101 rfl rfl ?_
  refine j_dup dX13_feed_102 rfl ?_
  refine gI13_328 rfl dX13_feed_103 ?_
  rw [up_off _ _ (by decide), a3]
  refine j_iconst (v := nI 1) dX13_feed_106 (by decide) ?_
  refine j_iadd dX13_feed_107 ?_
  rw [nI_add]
  refine pI13_328 rfl dX13_feed_108 ?_
  obtain ⟨n4, q4⟩ : ∃ m, m = up (up n3 1001 (k + 3) (bv a 0)) 1000 6 (nI (k + 3 + 1)) := ⟨_, rfl⟩
  rw [show up (up n3 1001 (k + 3) (((a >>> (nI 0 &&& 31)).toInt8.toInt32).toInt8.toInt32)) 1000 6 (nI (k + 3 + 1)) = n4 from q4.symm]
  have a4 : n4 1000 6 = nI (k + 4) := by rw [q4, up_at]
  have o4 : ∀ z, z ≠ 1000 → z ≠ 1001 → n4 z = m1 z := fun z h0 h1 => by rw [q4, up_off _ _ h0, up_off _ _ h1]; exact o3 z h0 h1
  have z4 : ∀ i, i ≠ 6 → n4 1000 i = m1 1000 i := fun i hi => by rw [q4, up_ne _ _ hi, up_off _ _ (by decide)]; exact z3 i hi
  have t4 : n4 1001 = upd (n3 1001) (k + 3) (bv a 0) := by rw [q4, up_off _ _ (by decide), up_row]
  refine j_iinc1 (lv2 := [_, _, _, _, _, _, _, _]) dX13_feed_111 rfl (by decide) rfl rfl ?_
  rw [show nI 3 + 1 = nI 4 from rfl]
  refine j_goto (tgt := 23) dX13_feed_114 (by decide) ?_
  refine j_iload dX13_feed_23 rfl ?_
  refine j_bipush (v := nI 20) dX13_feed_25 (by decide) ?_
  refine j_icmp_ge (tgt := 117) dX13_feed_27 (by decide) (fun h27 => absurd h27 (by decide)) (fun h27 => ?_)
  refine j_iload dX13_feed_30 rfl ?_
  refine j_iconst (v := nI 4) dX13_feed_32 (by decide) ?_
  refine j_icmp_ge (tgt := 40) dX13_feed_33 (by decide) (fun h33 => ?_) (fun h33 => absurd (by decide) h33)
  refine j_iload dX13_feed_40 rfl ?_
  refine j_bipush (v := nI 8) dX13_feed_42 (by decide) ?_
  refine j_icmp_ge (tgt := 51) dX13_feed_44 (by decide) (fun h44 => absurd h44 (by decide)) (fun h44 => ?_)
  refine j_iload_n dX13_feed_47 rfl rfl ?_
  refine j_goto (tgt := 76) dX13_feed_48 (by decide) ?_
  refine j_istore (lv2 := [_, _, _, _, _, _, _, _]) dX13_feed_76 (by decide) rfl rfl ?_
  refine j_aload_n dX13_feed_78 rfl rfl ?_
  refine gR13_13 rfl dX13_feed_79 (x1001 hX) ?_
  refine j_aload_n dX13_feed_82 rfl rfl ?_
  refine gI13_328 rfl dX13_feed_83 ?_
  rw [a4]
  refine j_iload dX13_feed_86 rfl ?_
  refine j_bipush (v := nI 24) dX13_feed_88 (by decide) ?_
  refine j_bipush (v := nI 8) dX13_feed_90 (by decide) ?_
  refine j_iload dX13_feed_92 rfl ?_
  refine j_iconst (v := nI 4) dX13_feed_94 (by decide) ?_
  refine j_irem dX13_feed_95 (by decide) ?_
  rw [show nI 4 - nI 4 / nI 4 * nI 4 = nI 0 by decide]
  refine j_imul dX13_feed_96 ?_
  rw [show nI 8 * nI 0 = nI 0 by decide]
  refine j_isub dX13_feed_97 ?_
  rw [show nI 24 - nI 0 = nI 24 by decide]
  refine j_ishr dX13_feed_98 ?_
  refine j_i2b dX13_feed_99 ?_
  refine j_bast rfl (inT (show ln 1001 = 1100 from rfl) (show k + 4 < 1100 by omega) (by decide)) dX13_feed_100 ?_
  rw [nI_clamp (by omega)]
  refine j_aload_n dX13_feed_101 rfl rfl ?_
  refine j_dup dX13_feed_102 rfl ?_
  refine gI13_328 rfl dX13_feed_103 ?_
  rw [up_off _ _ (by decide), a4]
  refine j_iconst (v := nI 1) dX13_feed_106 (by decide) ?_
  refine j_iadd dX13_feed_107 ?_
  rw [nI_add]
  refine pI13_328 rfl dX13_feed_108 ?_
  obtain ⟨n5, q5⟩ : ∃ m, m = up (up n4 1001 (k + 4) (bv b 24)) 1000 6 (nI (k + 4 + 1)) := ⟨_, rfl⟩
  rw [show up (up n4 1001 (k + 4) (((b >>> (nI 24 &&& 31)).toInt8.toInt32).toInt8.toInt32)) 1000 6 (nI (k + 4 + 1)) = n5 from q5.symm]
  have a5 : n5 1000 6 = nI (k + 5) := by rw [q5, up_at]
  have o5 : ∀ z, z ≠ 1000 → z ≠ 1001 → n5 z = m1 z := fun z h0 h1 => by rw [q5, up_off _ _ h0, up_off _ _ h1]; exact o4 z h0 h1
  have z5 : ∀ i, i ≠ 6 → n5 1000 i = m1 1000 i := fun i hi => by rw [q5, up_ne _ _ hi, up_off _ _ (by decide)]; exact z4 i hi
  have t5 : n5 1001 = upd (n4 1001) (k + 4) (bv b 24) := by rw [q5, up_off _ _ (by decide), up_row]
  refine j_iinc1 (lv2 := [_, _, _, _, _, _, _, _]) dX13_feed_111 rfl (by decide) rfl rfl ?_
  rw [show nI 4 + 1 = nI 5 from rfl]
  refine j_goto (tgt := 23) dX13_feed_114 (by decide) ?_
  refine j_iload dX13_feed_23 rfl ?_
  refine j_bipush (v := nI 20) dX13_feed_25 (by decide) ?_
  refine j_icmp_ge (tgt := 117) dX13_feed_27 (by decide) (fun h27 => absurd h27 (by decide)) (fun h27 => ?_)
  refine j_iload dX13_feed_30 rfl ?_
  refine j_iconst (v := nI 4) dX13_feed_32 (by decide) ?_
  refine j_icmp_ge (tgt := 40) dX13_feed_33 (by decide) (fun h33 => ?_) (fun h33 => absurd (by decide) h33)
  refine j_iload dX13_feed_40 rfl ?_
  refine j_bipush (v := nI 8) dX13_feed_42 (by decide) ?_
  refine j_icmp_ge (tgt := 51) dX13_feed_44 (by decide) (fun h44 => absurd h44 (by decide)) (fun h44 => ?_)
  refine j_iload_n dX13_feed_47 rfl rfl ?_
  refine j_goto (tgt := 76) dX13_feed_48 (by decide) ?_
  refine j_istore (lv2 := [_, _, _, _, _, _, _, _]) dX13_feed_76 (by decide) rfl rfl ?_
  refine j_aload_n dX13_feed_78 rfl rfl ?_
  refine gR13_13 rfl dX13_feed_79 (x1001 hX) ?_
  refine j_aload_n dX13_feed_82 rfl rfl ?_
  refine gI13_328 rfl dX13_feed_83 ?_
  rw [a5]
  refine j_iload dX13_feed_86 rfl ?_
  refine j_bipush (v := nI 24) dX13_feed_88 (by decide) ?_
  refine j_bipush (v := nI 8) dX13_feed_90 (by decide) ?_
  refine j_iload dX13_feed_92 rfl ?_
  refine j_iconst (v := nI 4) dX13_feed_94 (by decide) ?_
  refine j_irem dX13_feed_95 (by decide) ?_
  rw [show nI 5 - nI 5 / nI 4 * nI 4 = nI 1 by decide]
  refine j_imul dX13_feed_96 ?_
  rw [show nI 8 * nI 1 = nI 8 by decide]
  refine j_isub dX13_feed_97 ?_
  rw [show nI 24 - nI 8 = nI 16 by decide]
  refine j_ishr dX13_feed_98 ?_
  refine j_i2b dX13_feed_99 ?_
  refine j_bast rfl (inT (show ln 1001 = 1100 from rfl) (show k + 5 < 1100 by omega) (by decide)) dX13_feed_100 ?_
  rw [nI_clamp (by omega)]
  refine j_aload_n dX13_feed_101 rfl rfl ?_
  refine j_dup dX13_feed_102 rfl ?_
  refine gI13_328 rfl dX13_feed_103 ?_
  rw [up_off _ _ (by decide), a5]
  refine j_iconst (v := nI 1) dX13_feed_106 (by decide) ?_
  refine j_iadd dX13_feed_107 ?_
  rw [nI_add]
  refine pI13_328 rfl dX13_feed_108 ?_
  obtain ⟨n6, q6⟩ : ∃ m, m = up (up n5 1001 (k + 5) (bv b 16)) 1000 6 (nI (k + 5 + 1)) := ⟨_, rfl⟩
  rw [show up (up n5 1001 (k + 5) (((b >>> (nI 16 &&& 31)).toInt8.toInt32).toInt8.toInt32)) 1000 6 (nI (k + 5 + 1)) = n6 from q6.symm]
  have a6 : n6 1000 6 = nI (k + 6) := by rw [q6, up_at]
  have o6 : ∀ z, z ≠ 1000 → z ≠ 1001 → n6 z = m1 z := fun z h0 h1 => by rw [q6, up_off _ _ h0, up_off _ _ h1]; exact o5 z h0 h1
  have z6 : ∀ i, i ≠ 6 → n6 1000 i = m1 1000 i := fun i hi => by rw [q6, up_ne _ _ hi, up_off _ _ (by decide)]; exact z5 i hi
  have t6 : n6 1001 = upd (n5 1001) (k + 5) (bv b 16) := by rw [q6, up_off _ _ (by decide), up_row]
  refine j_iinc1 (lv2 := [_, _, _, _, _, _, _, _]) dX13_feed_111 rfl (by decide) rfl rfl ?_
  rw [show nI 5 + 1 = nI 6 from rfl]
  refine j_goto (tgt := 23) dX13_feed_114 (by decide) ?_
  refine j_iload dX13_feed_23 rfl ?_
  refine j_bipush (v := nI 20) dX13_feed_25 (by decide) ?_
  refine j_icmp_ge (tgt := 117) dX13_feed_27 (by decide) (fun h27 => absurd h27 (by decide)) (fun h27 => ?_)
  refine j_iload dX13_feed_30 rfl ?_
  refine j_iconst (v := nI 4) dX13_feed_32 (by decide) ?_
  refine j_icmp_ge (tgt := 40) dX13_feed_33 (by decide) (fun h33 => ?_) (fun h33 => absurd (by decide) h33)
  refine j_iload dX13_feed_40 rfl ?_
  refine j_bipush (v := nI 8) dX13_feed_42 (by decide) ?_
  refine j_icmp_ge (tgt := 51) dX13_feed_44 (by decide) (fun h44 => absurd h44 (by decide)) (fun h44 => ?_)
  refine j_iload_n dX13_feed_47 rfl rfl ?_
  refine j_goto (tgt := 76) dX13_feed_48 (by decide) ?_
  refine j_istore (lv2 := [_, _, _, _, _, _, _, _]) dX13_feed_76 (by decide) rfl rfl ?_
  refine j_aload_n dX13_feed_78 rfl rfl ?_
  refine gR13_13 rfl dX13_feed_79 (x1001 hX) ?_
  refine j_aload_n dX13_feed_82 rfl rfl ?_
  refine gI13_328 rfl dX13_feed_83 ?_
  rw [a6]
  refine j_iload dX13_feed_86 rfl ?_
  refine j_bipush (v := nI 24) dX13_feed_88 (by decide) ?_
  refine j_bipush (v := nI 8) dX13_feed_90 (by decide) ?_
  refine j_iload dX13_feed_92 rfl ?_
  refine j_iconst (v := nI 4) dX13_feed_94 (by decide) ?_
  refine j_irem dX13_feed_95 (by decide) ?_
  rw [show nI 6 - nI 6 / nI 4 * nI 4 = nI 2 by decide]
  refine j_imul dX13_feed_96 ?_
  rw [show nI 8 * nI 2 = nI 16 by decide]
  refine j_isub dX13_feed_97 ?_
  rw [show nI 24 - nI 16 = nI 8 by decide]
  refine j_ishr dX13_feed_98 ?_
  refine j_i2b dX13_feed_99 ?_
  refine j_bast rfl (inT (show ln 1001 = 1100 from rfl) (show k + 6 < 1100 by omega) (by decide)) dX13_feed_100 ?_
  rw [nI_clamp (by omega)]
  refine j_aload_n dX13_feed_101 rfl rfl ?_
  refine j_dup dX13_feed_102 rfl ?_
  refine gI13_328 rfl dX13_feed_103 ?_
  rw [up_off _ _ (by decide), a6]
  refine j_iconst (v := nI 1) dX13_feed_106 (by decide) ?_
  refine j_iadd dX13_feed_107 ?_
  rw [nI_add]
  refine pI13_328 rfl dX13_feed_108 ?_
  obtain ⟨n7, q7⟩ : ∃ m, m = up (up n6 1001 (k + 6) (bv b 8)) 1000 6 (nI (k + 6 + 1)) := ⟨_, rfl⟩
  rw [show up (up n6 1001 (k + 6) (((b >>> (nI 8 &&& 31)).toInt8.toInt32).toInt8.toInt32)) 1000 6 (nI (k + 6 + 1)) = n7 from q7.symm]
  have a7 : n7 1000 6 = nI (k + 7) := by rw [q7, up_at]
  have o7 : ∀ z, z ≠ 1000 → z ≠ 1001 → n7 z = m1 z := fun z h0 h1 => by rw [q7, up_off _ _ h0, up_off _ _ h1]; exact o6 z h0 h1
  have z7 : ∀ i, i ≠ 6 → n7 1000 i = m1 1000 i := fun i hi => by rw [q7, up_ne _ _ hi, up_off _ _ (by decide)]; exact z6 i hi
  have t7 : n7 1001 = upd (n6 1001) (k + 6) (bv b 8) := by rw [q7, up_off _ _ (by decide), up_row]
  refine j_iinc1 (lv2 := [_, _, _, _, _, _, _, _]) dX13_feed_111 rfl (by decide) rfl rfl ?_
  rw [show nI 6 + 1 = nI 7 from rfl]
  refine j_goto (tgt := 23) dX13_feed_114 (by decide) ?_
  refine j_iload dX13_feed_23 rfl ?_
  refine j_bipush (v := nI 20) dX13_feed_25 (by decide) ?_
  refine j_icmp_ge (tgt := 117) dX13_feed_27 (by decide) (fun h27 => absurd h27 (by decide)) (fun h27 => ?_)
  refine j_iload dX13_feed_30 rfl ?_
  refine j_iconst (v := nI 4) dX13_feed_32 (by decide) ?_
  refine j_icmp_ge (tgt := 40) dX13_feed_33 (by decide) (fun h33 => ?_) (fun h33 => absurd (by decide) h33)
  refine j_iload dX13_feed_40 rfl ?_
  refine j_bipush (v := nI 8) dX13_feed_42 (by decide) ?_
  refine j_icmp_ge (tgt := 51) dX13_feed_44 (by decide) (fun h44 => absurd h44 (by decide)) (fun h44 => ?_)
  refine j_iload_n dX13_feed_47 rfl rfl ?_
  refine j_goto (tgt := 76) dX13_feed_48 (by decide) ?_
  refine j_istore (lv2 := [_, _, _, _, _, _, _, _]) dX13_feed_76 (by decide) rfl rfl ?_
  refine j_aload_n dX13_feed_78 rfl rfl ?_
  refine gR13_13 rfl dX13_feed_79 (x1001 hX) ?_
  refine j_aload_n dX13_feed_82 rfl rfl ?_
  refine gI13_328 rfl dX13_feed_83 ?_
  rw [a7]
  refine j_iload dX13_feed_86 rfl ?_
  refine j_bipush (v := nI 24) dX13_feed_88 (by decide) ?_
  refine j_bipush (v := nI 8) dX13_feed_90 (by decide) ?_
  refine j_iload dX13_feed_92 rfl ?_
  refine j_iconst (v := nI 4) dX13_feed_94 (by decide) ?_
  refine j_irem dX13_feed_95 (by decide) ?_
  rw [show nI 7 - nI 7 / nI 4 * nI 4 = nI 3 by decide]
  refine j_imul dX13_feed_96 ?_
  rw [show nI 8 * nI 3 = nI 24 by decide]
  refine j_isub dX13_feed_97 ?_
  rw [show nI 24 - nI 24 = nI 0 by decide]
  refine j_ishr dX13_feed_98 ?_
  refine j_i2b dX13_feed_99 ?_
  refine j_bast rfl (inT (show ln 1001 = 1100 from rfl) (show k + 7 < 1100 by omega) (by decide)) dX13_feed_100 ?_
  rw [nI_clamp (by omega)]
  refine j_aload_n dX13_feed_101 rfl rfl ?_
  refine j_dup dX13_feed_102 rfl ?_
  refine gI13_328 rfl dX13_feed_103 ?_
  rw [up_off _ _ (by decide), a7]
  refine j_iconst (v := nI 1) dX13_feed_106 (by decide) ?_
  refine j_iadd dX13_feed_107 ?_
  rw [nI_add]
  refine pI13_328 rfl dX13_feed_108 ?_
  obtain ⟨n8, q8⟩ : ∃ m, m = up (up n7 1001 (k + 7) (bv b 0)) 1000 6 (nI (k + 7 + 1)) := ⟨_, rfl⟩
  rw [show up (up n7 1001 (k + 7) (((b >>> (nI 0 &&& 31)).toInt8.toInt32).toInt8.toInt32)) 1000 6 (nI (k + 7 + 1)) = n8 from q8.symm]
  have a8 : n8 1000 6 = nI (k + 8) := by rw [q8, up_at]
  have o8 : ∀ z, z ≠ 1000 → z ≠ 1001 → n8 z = m1 z := fun z h0 h1 => by rw [q8, up_off _ _ h0, up_off _ _ h1]; exact o7 z h0 h1
  have z8 : ∀ i, i ≠ 6 → n8 1000 i = m1 1000 i := fun i hi => by rw [q8, up_ne _ _ hi, up_off _ _ (by decide)]; exact z7 i hi
  have t8 : n8 1001 = upd (n7 1001) (k + 7) (bv b 0) := by rw [q8, up_off _ _ (by decide), up_row]
  refine j_iinc1 (lv2 := [_, _, _, _, _, _, _, _]) dX13_feed_111 rfl (by decide) rfl rfl ?_
  rw [show nI 7 + 1 = nI 8 from rfl]
  refine j_goto (tgt := 23) dX13_feed_114 (by decide) ?_
  refine j_iload dX13_feed_23 rfl ?_
  refine j_bipush (v := nI 20) dX13_feed_25 (by decide) ?_
  refine j_icmp_ge (tgt := 117) dX13_feed_27 (by decide) (fun h27 => absurd h27 (by decide)) (fun h27 => ?_)
  refine j_iload dX13_feed_30 rfl ?_
  refine j_iconst (v := nI 4) dX13_feed_32 (by decide) ?_
  refine j_icmp_ge (tgt := 40) dX13_feed_33 (by decide) (fun h33 => ?_) (fun h33 => absurd (by decide) h33)
  refine j_iload dX13_feed_40 rfl ?_
  refine j_bipush (v := nI 8) dX13_feed_42 (by decide) ?_
  refine j_icmp_ge (tgt := 51) dX13_feed_44 (by decide) (fun h44 => ?_) (fun h44 => absurd (by decide) h44)
  refine j_iload dX13_feed_51 rfl ?_
  refine j_bipush (v := nI 12) dX13_feed_53 (by decide) ?_
  refine j_icmp_ge (tgt := 62) dX13_feed_55 (by decide) (fun h55 => absurd h55 (by decide)) (fun h55 => ?_)
  refine j_iload_n dX13_feed_58 rfl rfl ?_
  refine j_goto (tgt := 76) dX13_feed_59 (by decide) ?_
  refine j_istore (lv2 := [_, _, _, _, _, _, _, _]) dX13_feed_76 (by decide) rfl rfl ?_
  refine j_aload_n dX13_feed_78 rfl rfl ?_
  refine gR13_13 rfl dX13_feed_79 (x1001 hX) ?_
  refine j_aload_n dX13_feed_82 rfl rfl ?_
  refine gI13_328 rfl dX13_feed_83 ?_
  rw [a8]
  refine j_iload dX13_feed_86 rfl ?_
  refine j_bipush (v := nI 24) dX13_feed_88 (by decide) ?_
  refine j_bipush (v := nI 8) dX13_feed_90 (by decide) ?_
  refine j_iload dX13_feed_92 rfl ?_
  refine j_iconst (v := nI 4) dX13_feed_94 (by decide) ?_
  refine j_irem dX13_feed_95 (by decide) ?_
  rw [show nI 8 - nI 8 / nI 4 * nI 4 = nI 0 by decide]
  refine j_imul dX13_feed_96 ?_
  rw [show nI 8 * nI 0 = nI 0 by decide]
  refine j_isub dX13_feed_97 ?_
  rw [show nI 24 - nI 0 = nI 24 by decide]
  refine j_ishr dX13_feed_98 ?_
  refine j_i2b dX13_feed_99 ?_
  refine j_bast rfl (inT (show ln 1001 = 1100 from rfl) (show k + 8 < 1100 by omega) (by decide)) dX13_feed_100 ?_
  rw [nI_clamp (by omega)]
  refine j_aload_n dX13_feed_101 rfl rfl ?_
  refine j_dup dX13_feed_102 rfl ?_
  refine gI13_328 rfl dX13_feed_103 ?_
  rw [up_off _ _ (by decide), a8]
  refine j_iconst (v := nI 1) dX13_feed_106 (by decide) ?_
  refine j_iadd dX13_feed_107 ?_
  rw [nI_add]
  refine pI13_328 rfl dX13_feed_108 ?_
  obtain ⟨n9, q9⟩ : ∃ m, m = up (up n8 1001 (k + 8) (bv c 24)) 1000 6 (nI (k + 8 + 1)) := ⟨_, rfl⟩
  rw [show up (up n8 1001 (k + 8) (((c >>> (nI 24 &&& 31)).toInt8.toInt32).toInt8.toInt32)) 1000 6 (nI (k + 8 + 1)) = n9 from q9.symm]
  have a9 : n9 1000 6 = nI (k + 9) := by rw [q9, up_at]
  have o9 : ∀ z, z ≠ 1000 → z ≠ 1001 → n9 z = m1 z := fun z h0 h1 => by rw [q9, up_off _ _ h0, up_off _ _ h1]; exact o8 z h0 h1
  have z9 : ∀ i, i ≠ 6 → n9 1000 i = m1 1000 i := fun i hi => by rw [q9, up_ne _ _ hi, up_off _ _ (by decide)]; exact z8 i hi
  have t9 : n9 1001 = upd (n8 1001) (k + 8) (bv c 24) := by rw [q9, up_off _ _ (by decide), up_row]
  refine j_iinc1 (lv2 := [_, _, _, _, _, _, _, _]) dX13_feed_111 rfl (by decide) rfl rfl ?_
  rw [show nI 8 + 1 = nI 9 from rfl]
  refine j_goto (tgt := 23) dX13_feed_114 (by decide) ?_
  refine j_iload dX13_feed_23 rfl ?_
  refine j_bipush (v := nI 20) dX13_feed_25 (by decide) ?_
  refine j_icmp_ge (tgt := 117) dX13_feed_27 (by decide) (fun h27 => absurd h27 (by decide)) (fun h27 => ?_)
  refine j_iload dX13_feed_30 rfl ?_
  refine j_iconst (v := nI 4) dX13_feed_32 (by decide) ?_
  refine j_icmp_ge (tgt := 40) dX13_feed_33 (by decide) (fun h33 => ?_) (fun h33 => absurd (by decide) h33)
  refine j_iload dX13_feed_40 rfl ?_
  refine j_bipush (v := nI 8) dX13_feed_42 (by decide) ?_
  refine j_icmp_ge (tgt := 51) dX13_feed_44 (by decide) (fun h44 => ?_) (fun h44 => absurd (by decide) h44)
  refine j_iload dX13_feed_51 rfl ?_
  refine j_bipush (v := nI 12) dX13_feed_53 (by decide) ?_
  refine j_icmp_ge (tgt := 62) dX13_feed_55 (by decide) (fun h55 => absurd h55 (by decide)) (fun h55 => ?_)
  refine j_iload_n dX13_feed_58 rfl rfl ?_
  refine j_goto (tgt := 76) dX13_feed_59 (by decide) ?_
  refine j_istore (lv2 := [_, _, _, _, _, _, _, _]) dX13_feed_76 (by decide) rfl rfl ?_
  refine j_aload_n dX13_feed_78 rfl rfl ?_
  refine gR13_13 rfl dX13_feed_79 (x1001 hX) ?_
  refine j_aload_n dX13_feed_82 rfl rfl ?_
  refine gI13_328 rfl dX13_feed_83 ?_
  rw [a9]
  refine j_iload dX13_feed_86 rfl ?_
  refine j_bipush (v := nI 24) dX13_feed_88 (by decide) ?_
  refine j_bipush (v := nI 8) dX13_feed_90 (by decide) ?_
  refine j_iload dX13_feed_92 rfl ?_
  refine j_iconst (v := nI 4) dX13_feed_94 (by decide) ?_
  refine j_irem dX13_feed_95 (by decide) ?_
  rw [show nI 9 - nI 9 / nI 4 * nI 4 = nI 1 by decide]
  refine j_imul dX13_feed_96 ?_
  rw [show nI 8 * nI 1 = nI 8 by decide]
  refine j_isub dX13_feed_97 ?_
  rw [show nI 24 - nI 8 = nI 16 by decide]
  refine j_ishr dX13_feed_98 ?_
  refine j_i2b dX13_feed_99 ?_
  refine j_bast rfl (inT (show ln 1001 = 1100 from rfl) (show k + 9 < 1100 by omega) (by decide)) dX13_feed_100 ?_
  rw [nI_clamp (by omega)]
  refine j_aload_n dX13_feed_101 rfl rfl ?_
  refine j_dup dX13_feed_102 rfl ?_
  refine gI13_328 rfl dX13_feed_103 ?_
  rw [up_off _ _ (by decide), a9]
  refine j_iconst (v := nI 1) dX13_feed_106 (by decide) ?_
  refine j_iadd dX13_feed_107 ?_
  rw [nI_add]
  refine pI13_328 rfl dX13_feed_108 ?_
  obtain ⟨n10, q10⟩ : ∃ m, m = up (up n9 1001 (k + 9) (bv c 16)) 1000 6 (nI (k + 9 + 1)) := ⟨_, rfl⟩
  rw [show up (up n9 1001 (k + 9) (((c >>> (nI 16 &&& 31)).toInt8.toInt32).toInt8.toInt32)) 1000 6 (nI (k + 9 + 1)) = n10 from q10.symm]
  have a10 : n10 1000 6 = nI (k + 10) := by rw [q10, up_at]
  have o10 : ∀ z, z ≠ 1000 → z ≠ 1001 → n10 z = m1 z := fun z h0 h1 => by rw [q10, up_off _ _ h0, up_off _ _ h1]; exact o9 z h0 h1
  have z10 : ∀ i, i ≠ 6 → n10 1000 i = m1 1000 i := fun i hi => by rw [q10, up_ne _ _ hi, up_off _ _ (by decide)]; exact z9 i hi
  have t10 : n10 1001 = upd (n9 1001) (k + 9) (bv c 16) := by rw [q10, up_off _ _ (by decide), up_row]
  refine j_iinc1 (lv2 := [_, _, _, _, _, _, _, _]) dX13_feed_111 rfl (by decide) rfl rfl ?_
  rw [show nI 9 + 1 = nI 10 from rfl]
  refine j_goto (tgt := 23) dX13_feed_114 (by decide) ?_
  refine j_iload dX13_feed_23 rfl ?_
  refine j_bipush (v := nI 20) dX13_feed_25 (by decide) ?_
  refine j_icmp_ge (tgt := 117) dX13_feed_27 (by decide) (fun h27 => absurd h27 (by decide)) (fun h27 => ?_)
  refine j_iload dX13_feed_30 rfl ?_
  refine j_iconst (v := nI 4) dX13_feed_32 (by decide) ?_
  refine j_icmp_ge (tgt := 40) dX13_feed_33 (by decide) (fun h33 => ?_) (fun h33 => absurd (by decide) h33)
  refine j_iload dX13_feed_40 rfl ?_
  refine j_bipush (v := nI 8) dX13_feed_42 (by decide) ?_
  refine j_icmp_ge (tgt := 51) dX13_feed_44 (by decide) (fun h44 => ?_) (fun h44 => absurd (by decide) h44)
  refine j_iload dX13_feed_51 rfl ?_
  refine j_bipush (v := nI 12) dX13_feed_53 (by decide) ?_
  refine j_icmp_ge (tgt := 62) dX13_feed_55 (by decide) (fun h55 => absurd h55 (by decide)) (fun h55 => ?_)
  refine j_iload_n dX13_feed_58 rfl rfl ?_
  refine j_goto (tgt := 76) dX13_feed_59 (by decide) ?_
  refine j_istore (lv2 := [_, _, _, _, _, _, _, _]) dX13_feed_76 (by decide) rfl rfl ?_
  refine j_aload_n dX13_feed_78 rfl rfl ?_
  refine gR13_13 rfl dX13_feed_79 (x1001 hX) ?_
  refine j_aload_n dX13_feed_82 rfl rfl ?_
  refine gI13_328 rfl dX13_feed_83 ?_
  rw [a10]
  refine j_iload dX13_feed_86 rfl ?_
  refine j_bipush (v := nI 24) dX13_feed_88 (by decide) ?_
  refine j_bipush (v := nI 8) dX13_feed_90 (by decide) ?_
  refine j_iload dX13_feed_92 rfl ?_
  refine j_iconst (v := nI 4) dX13_feed_94 (by decide) ?_
  refine j_irem dX13_feed_95 (by decide) ?_
  rw [show nI 10 - nI 10 / nI 4 * nI 4 = nI 2 by decide]
  refine j_imul dX13_feed_96 ?_
  rw [show nI 8 * nI 2 = nI 16 by decide]
  refine j_isub dX13_feed_97 ?_
  rw [show nI 24 - nI 16 = nI 8 by decide]
  refine j_ishr dX13_feed_98 ?_
  refine j_i2b dX13_feed_99 ?_
  refine j_bast rfl (inT (show ln 1001 = 1100 from rfl) (show k + 10 < 1100 by omega) (by decide)) dX13_feed_100 ?_
  rw [nI_clamp (by omega)]
  refine j_aload_n dX13_feed_101 rfl rfl ?_
  refine j_dup dX13_feed_102 rfl ?_
  refine gI13_328 rfl dX13_feed_103 ?_
  rw [up_off _ _ (by decide), a10]
  refine j_iconst (v := nI 1) dX13_feed_106 (by decide) ?_
  refine j_iadd dX13_feed_107 ?_
  rw [nI_add]
  refine pI13_328 rfl dX13_feed_108 ?_
  obtain ⟨n11, q11⟩ : ∃ m, m = up (up n10 1001 (k + 10) (bv c 8)) 1000 6 (nI (k + 10 + 1)) := ⟨_, rfl⟩
  rw [show up (up n10 1001 (k + 10) (((c >>> (nI 8 &&& 31)).toInt8.toInt32).toInt8.toInt32)) 1000 6 (nI (k + 10 + 1)) = n11 from q11.symm]
  have a11 : n11 1000 6 = nI (k + 11) := by rw [q11, up_at]
  have o11 : ∀ z, z ≠ 1000 → z ≠ 1001 → n11 z = m1 z := fun z h0 h1 => by rw [q11, up_off _ _ h0, up_off _ _ h1]; exact o10 z h0 h1
  have z11 : ∀ i, i ≠ 6 → n11 1000 i = m1 1000 i := fun i hi => by rw [q11, up_ne _ _ hi, up_off _ _ (by decide)]; exact z10 i hi
  have t11 : n11 1001 = upd (n10 1001) (k + 10) (bv c 8) := by rw [q11, up_off _ _ (by decide), up_row]
  refine j_iinc1 (lv2 := [_, _, _, _, _, _, _, _]) dX13_feed_111 rfl (by decide) rfl rfl ?_
  rw [show nI 10 + 1 = nI 11 from rfl]
  refine j_goto (tgt := 23) dX13_feed_114 (by decide) ?_
  refine j_iload dX13_feed_23 rfl ?_
  refine j_bipush (v := nI 20) dX13_feed_25 (by decide) ?_
  refine j_icmp_ge (tgt := 117) dX13_feed_27 (by decide) (fun h27 => absurd h27 (by decide)) (fun h27 => ?_)
  refine j_iload dX13_feed_30 rfl ?_
  refine j_iconst (v := nI 4) dX13_feed_32 (by decide) ?_
  refine j_icmp_ge (tgt := 40) dX13_feed_33 (by decide) (fun h33 => ?_) (fun h33 => absurd (by decide) h33)
  refine j_iload dX13_feed_40 rfl ?_
  refine j_bipush (v := nI 8) dX13_feed_42 (by decide) ?_
  refine j_icmp_ge (tgt := 51) dX13_feed_44 (by decide) (fun h44 => ?_) (fun h44 => absurd (by decide) h44)
  refine j_iload dX13_feed_51 rfl ?_
  refine j_bipush (v := nI 12) dX13_feed_53 (by decide) ?_
  refine j_icmp_ge (tgt := 62) dX13_feed_55 (by decide) (fun h55 => absurd h55 (by decide)) (fun h55 => ?_)
  refine j_iload_n dX13_feed_58 rfl rfl ?_
  refine j_goto (tgt := 76) dX13_feed_59 (by decide) ?_
  refine j_istore (lv2 := [_, _, _, _, _, _, _, _]) dX13_feed_76 (by decide) rfl rfl ?_
  refine j_aload_n dX13_feed_78 rfl rfl ?_
  refine gR13_13 rfl dX13_feed_79 (x1001 hX) ?_
  refine j_aload_n dX13_feed_82 rfl rfl ?_
  refine gI13_328 rfl dX13_feed_83 ?_
  rw [a11]
  refine j_iload dX13_feed_86 rfl ?_
  refine j_bipush (v := nI 24) dX13_feed_88 (by decide) ?_
  refine j_bipush (v := nI 8) dX13_feed_90 (by decide) ?_
  refine j_iload dX13_feed_92 rfl ?_
  refine j_iconst (v := nI 4) dX13_feed_94 (by decide) ?_
  refine j_irem dX13_feed_95 (by decide) ?_
  rw [show nI 11 - nI 11 / nI 4 * nI 4 = nI 3 by decide]
  refine j_imul dX13_feed_96 ?_
  rw [show nI 8 * nI 3 = nI 24 by decide]
  refine j_isub dX13_feed_97 ?_
  rw [show nI 24 - nI 24 = nI 0 by decide]
  refine j_ishr dX13_feed_98 ?_
  refine j_i2b dX13_feed_99 ?_
  refine j_bast rfl (inT (show ln 1001 = 1100 from rfl) (show k + 11 < 1100 by omega) (by decide)) dX13_feed_100 ?_
  rw [nI_clamp (by omega)]
  refine j_aload_n dX13_feed_101 rfl rfl ?_
  refine j_dup dX13_feed_102 rfl ?_
  refine gI13_328 rfl dX13_feed_103 ?_
  rw [up_off _ _ (by decide), a11]
  refine j_iconst (v := nI 1) dX13_feed_106 (by decide) ?_
  refine j_iadd dX13_feed_107 ?_
  rw [nI_add]
  refine pI13_328 rfl dX13_feed_108 ?_
  obtain ⟨n12, q12⟩ : ∃ m, m = up (up n11 1001 (k + 11) (bv c 0)) 1000 6 (nI (k + 11 + 1)) := ⟨_, rfl⟩
  rw [show up (up n11 1001 (k + 11) (((c >>> (nI 0 &&& 31)).toInt8.toInt32).toInt8.toInt32)) 1000 6 (nI (k + 11 + 1)) = n12 from q12.symm]
  have a12 : n12 1000 6 = nI (k + 12) := by rw [q12, up_at]
  have o12 : ∀ z, z ≠ 1000 → z ≠ 1001 → n12 z = m1 z := fun z h0 h1 => by rw [q12, up_off _ _ h0, up_off _ _ h1]; exact o11 z h0 h1
  have z12 : ∀ i, i ≠ 6 → n12 1000 i = m1 1000 i := fun i hi => by rw [q12, up_ne _ _ hi, up_off _ _ (by decide)]; exact z11 i hi
  have t12 : n12 1001 = upd (n11 1001) (k + 11) (bv c 0) := by rw [q12, up_off _ _ (by decide), up_row]
  refine j_iinc1 (lv2 := [_, _, _, _, _, _, _, _]) dX13_feed_111 rfl (by decide) rfl rfl ?_
  rw [show nI 11 + 1 = nI 12 from rfl]
  refine j_goto (tgt := 23) dX13_feed_114 (by decide) ?_
  refine j_iload dX13_feed_23 rfl ?_
  refine j_bipush (v := nI 20) dX13_feed_25 (by decide) ?_
  refine j_icmp_ge (tgt := 117) dX13_feed_27 (by decide) (fun h27 => absurd h27 (by decide)) (fun h27 => ?_)
  refine j_iload dX13_feed_30 rfl ?_
  refine j_iconst (v := nI 4) dX13_feed_32 (by decide) ?_
  refine j_icmp_ge (tgt := 40) dX13_feed_33 (by decide) (fun h33 => ?_) (fun h33 => absurd (by decide) h33)
  refine j_iload dX13_feed_40 rfl ?_
  refine j_bipush (v := nI 8) dX13_feed_42 (by decide) ?_
  refine j_icmp_ge (tgt := 51) dX13_feed_44 (by decide) (fun h44 => ?_) (fun h44 => absurd (by decide) h44)
  refine j_iload dX13_feed_51 rfl ?_
  refine j_bipush (v := nI 12) dX13_feed_53 (by decide) ?_
  refine j_icmp_ge (tgt := 62) dX13_feed_55 (by decide) (fun h55 => ?_) (fun h55 => absurd (by decide) h55)
  refine j_iload dX13_feed_62 rfl ?_
  refine j_bipush (v := nI 16) dX13_feed_64 (by decide) ?_
  refine j_icmp_ge (tgt := 74) dX13_feed_66 (by decide) (fun h66 => absurd h66 (by decide)) (fun h66 => ?_)
  refine j_iload dX13_feed_69 rfl ?_
  refine j_goto (tgt := 76) dX13_feed_71 (by decide) ?_
  refine j_istore (lv2 := [_, _, _, _, _, _, _, _]) dX13_feed_76 (by decide) rfl rfl ?_
  refine j_aload_n dX13_feed_78 rfl rfl ?_
  refine gR13_13 rfl dX13_feed_79 (x1001 hX) ?_
  refine j_aload_n dX13_feed_82 rfl rfl ?_
  refine gI13_328 rfl dX13_feed_83 ?_
  rw [a12]
  refine j_iload dX13_feed_86 rfl ?_
  refine j_bipush (v := nI 24) dX13_feed_88 (by decide) ?_
  refine j_bipush (v := nI 8) dX13_feed_90 (by decide) ?_
  refine j_iload dX13_feed_92 rfl ?_
  refine j_iconst (v := nI 4) dX13_feed_94 (by decide) ?_
  refine j_irem dX13_feed_95 (by decide) ?_
  rw [show nI 12 - nI 12 / nI 4 * nI 4 = nI 0 by decide]
  refine j_imul dX13_feed_96 ?_
  rw [show nI 8 * nI 0 = nI 0 by decide]
  refine j_isub dX13_feed_97 ?_
  rw [show nI 24 - nI 0 = nI 24 by decide]
  refine j_ishr dX13_feed_98 ?_
  refine j_i2b dX13_feed_99 ?_
  refine j_bast rfl (inT (show ln 1001 = 1100 from rfl) (show k + 12 < 1100 by omega) (by decide)) dX13_feed_100 ?_
  rw [nI_clamp (by omega)]
  refine j_aload_n dX13_feed_101 rfl rfl ?_
  refine j_dup dX13_feed_102 rfl ?_
  refine gI13_328 rfl dX13_feed_103 ?_
  rw [up_off _ _ (by decide), a12]
  refine j_iconst (v := nI 1) dX13_feed_106 (by decide) ?_
  refine j_iadd dX13_feed_107 ?_
  rw [nI_add]
  refine pI13_328 rfl dX13_feed_108 ?_
  obtain ⟨n13, q13⟩ : ∃ m, m = up (up n12 1001 (k + 12) (bv d 24)) 1000 6 (nI (k + 12 + 1)) := ⟨_, rfl⟩
  rw [show up (up n12 1001 (k + 12) (((d >>> (nI 24 &&& 31)).toInt8.toInt32).toInt8.toInt32)) 1000 6 (nI (k + 12 + 1)) = n13 from q13.symm]
  have a13 : n13 1000 6 = nI (k + 13) := by rw [q13, up_at]
  have o13 : ∀ z, z ≠ 1000 → z ≠ 1001 → n13 z = m1 z := fun z h0 h1 => by rw [q13, up_off _ _ h0, up_off _ _ h1]; exact o12 z h0 h1
  have z13 : ∀ i, i ≠ 6 → n13 1000 i = m1 1000 i := fun i hi => by rw [q13, up_ne _ _ hi, up_off _ _ (by decide)]; exact z12 i hi
  have t13 : n13 1001 = upd (n12 1001) (k + 12) (bv d 24) := by rw [q13, up_off _ _ (by decide), up_row]
  refine j_iinc1 (lv2 := [_, _, _, _, _, _, _, _]) dX13_feed_111 rfl (by decide) rfl rfl ?_
  rw [show nI 12 + 1 = nI 13 from rfl]
  refine j_goto (tgt := 23) dX13_feed_114 (by decide) ?_
  refine j_iload dX13_feed_23 rfl ?_
  refine j_bipush (v := nI 20) dX13_feed_25 (by decide) ?_
  refine j_icmp_ge (tgt := 117) dX13_feed_27 (by decide) (fun h27 => absurd h27 (by decide)) (fun h27 => ?_)
  refine j_iload dX13_feed_30 rfl ?_
  refine j_iconst (v := nI 4) dX13_feed_32 (by decide) ?_
  refine j_icmp_ge (tgt := 40) dX13_feed_33 (by decide) (fun h33 => ?_) (fun h33 => absurd (by decide) h33)
  refine j_iload dX13_feed_40 rfl ?_
  refine j_bipush (v := nI 8) dX13_feed_42 (by decide) ?_
  refine j_icmp_ge (tgt := 51) dX13_feed_44 (by decide) (fun h44 => ?_) (fun h44 => absurd (by decide) h44)
  refine j_iload dX13_feed_51 rfl ?_
  refine j_bipush (v := nI 12) dX13_feed_53 (by decide) ?_
  refine j_icmp_ge (tgt := 62) dX13_feed_55 (by decide) (fun h55 => ?_) (fun h55 => absurd (by decide) h55)
  refine j_iload dX13_feed_62 rfl ?_
  refine j_bipush (v := nI 16) dX13_feed_64 (by decide) ?_
  refine j_icmp_ge (tgt := 74) dX13_feed_66 (by decide) (fun h66 => absurd h66 (by decide)) (fun h66 => ?_)
  refine j_iload dX13_feed_69 rfl ?_
  refine j_goto (tgt := 76) dX13_feed_71 (by decide) ?_
  refine j_istore (lv2 := [_, _, _, _, _, _, _, _]) dX13_feed_76 (by decide) rfl rfl ?_
  refine j_aload_n dX13_feed_78 rfl rfl ?_
  refine gR13_13 rfl dX13_feed_79 (x1001 hX) ?_
  refine j_aload_n dX13_feed_82 rfl rfl ?_
  refine gI13_328 rfl dX13_feed_83 ?_
  rw [a13]
  refine j_iload dX13_feed_86 rfl ?_
  refine j_bipush (v := nI 24) dX13_feed_88 (by decide) ?_
  refine j_bipush (v := nI 8) dX13_feed_90 (by decide) ?_
  refine j_iload dX13_feed_92 rfl ?_
  refine j_iconst (v := nI 4) dX13_feed_94 (by decide) ?_
  refine j_irem dX13_feed_95 (by decide) ?_
  rw [show nI 13 - nI 13 / nI 4 * nI 4 = nI 1 by decide]
  refine j_imul dX13_feed_96 ?_
  rw [show nI 8 * nI 1 = nI 8 by decide]
  refine j_isub dX13_feed_97 ?_
  rw [show nI 24 - nI 8 = nI 16 by decide]
  refine j_ishr dX13_feed_98 ?_
  refine j_i2b dX13_feed_99 ?_
  refine j_bast rfl (inT (show ln 1001 = 1100 from rfl) (show k + 13 < 1100 by omega) (by decide)) dX13_feed_100 ?_
  rw [nI_clamp (by omega)]
  refine j_aload_n dX13_feed_101 rfl rfl ?_
  refine j_dup dX13_feed_102 rfl ?_
  refine gI13_328 rfl dX13_feed_103 ?_
  rw [up_off _ _ (by decide), a13]
  refine j_iconst (v := nI 1) dX13_feed_106 (by decide) ?_
  refine j_iadd dX13_feed_107 ?_
  rw [nI_add]
  refine pI13_328 rfl dX13_feed_108 ?_
  obtain ⟨n14, q14⟩ : ∃ m, m = up (up n13 1001 (k + 13) (bv d 16)) 1000 6 (nI (k + 13 + 1)) := ⟨_, rfl⟩
  rw [show up (up n13 1001 (k + 13) (((d >>> (nI 16 &&& 31)).toInt8.toInt32).toInt8.toInt32)) 1000 6 (nI (k + 13 + 1)) = n14 from q14.symm]
  have a14 : n14 1000 6 = nI (k + 14) := by rw [q14, up_at]
  have o14 : ∀ z, z ≠ 1000 → z ≠ 1001 → n14 z = m1 z := fun z h0 h1 => by rw [q14, up_off _ _ h0, up_off _ _ h1]; exact o13 z h0 h1
  have z14 : ∀ i, i ≠ 6 → n14 1000 i = m1 1000 i := fun i hi => by rw [q14, up_ne _ _ hi, up_off _ _ (by decide)]; exact z13 i hi
  have t14 : n14 1001 = upd (n13 1001) (k + 13) (bv d 16) := by rw [q14, up_off _ _ (by decide), up_row]
  refine j_iinc1 (lv2 := [_, _, _, _, _, _, _, _]) dX13_feed_111 rfl (by decide) rfl rfl ?_
  rw [show nI 13 + 1 = nI 14 from rfl]
  refine j_goto (tgt := 23) dX13_feed_114 (by decide) ?_
  refine j_iload dX13_feed_23 rfl ?_
  refine j_bipush (v := nI 20) dX13_feed_25 (by decide) ?_
  refine j_icmp_ge (tgt := 117) dX13_feed_27 (by decide) (fun h27 => absurd h27 (by decide)) (fun h27 => ?_)
  refine j_iload dX13_feed_30 rfl ?_
  refine j_iconst (v := nI 4) dX13_feed_32 (by decide) ?_
  refine j_icmp_ge (tgt := 40) dX13_feed_33 (by decide) (fun h33 => ?_) (fun h33 => absurd (by decide) h33)
  refine j_iload dX13_feed_40 rfl ?_
  refine j_bipush (v := nI 8) dX13_feed_42 (by decide) ?_
  refine j_icmp_ge (tgt := 51) dX13_feed_44 (by decide) (fun h44 => ?_) (fun h44 => absurd (by decide) h44)
  refine j_iload dX13_feed_51 rfl ?_
  refine j_bipush (v := nI 12) dX13_feed_53 (by decide) ?_
  refine j_icmp_ge (tgt := 62) dX13_feed_55 (by decide) (fun h55 => ?_) (fun h55 => absurd (by decide) h55)
  refine j_iload dX13_feed_62 rfl ?_
  refine j_bipush (v := nI 16) dX13_feed_64 (by decide) ?_
  refine j_icmp_ge (tgt := 74) dX13_feed_66 (by decide) (fun h66 => absurd h66 (by decide)) (fun h66 => ?_)
  refine j_iload dX13_feed_69 rfl ?_
  refine j_goto (tgt := 76) dX13_feed_71 (by decide) ?_
  refine j_istore (lv2 := [_, _, _, _, _, _, _, _]) dX13_feed_76 (by decide) rfl rfl ?_
  refine j_aload_n dX13_feed_78 rfl rfl ?_
  refine gR13_13 rfl dX13_feed_79 (x1001 hX) ?_
  refine j_aload_n dX13_feed_82 rfl rfl ?_
  refine gI13_328 rfl dX13_feed_83 ?_
  rw [a14]
  refine j_iload dX13_feed_86 rfl ?_
  refine j_bipush (v := nI 24) dX13_feed_88 (by decide) ?_
  refine j_bipush (v := nI 8) dX13_feed_90 (by decide) ?_
  refine j_iload dX13_feed_92 rfl ?_
  refine j_iconst (v := nI 4) dX13_feed_94 (by decide) ?_
  refine j_irem dX13_feed_95 (by decide) ?_
  rw [show nI 14 - nI 14 / nI 4 * nI 4 = nI 2 by decide]
  refine j_imul dX13_feed_96 ?_
  rw [show nI 8 * nI 2 = nI 16 by decide]
  refine j_isub dX13_feed_97 ?_
  rw [show nI 24 - nI 16 = nI 8 by decide]
  refine j_ishr dX13_feed_98 ?_
  refine j_i2b dX13_feed_99 ?_
  refine j_bast rfl (inT (show ln 1001 = 1100 from rfl) (show k + 14 < 1100 by omega) (by decide)) dX13_feed_100 ?_
  rw [nI_clamp (by omega)]
  refine j_aload_n dX13_feed_101 rfl rfl ?_
  refine j_dup dX13_feed_102 rfl ?_
  refine gI13_328 rfl dX13_feed_103 ?_
  rw [up_off _ _ (by decide), a14]
  refine j_iconst (v := nI 1) dX13_feed_106 (by decide) ?_
  refine j_iadd dX13_feed_107 ?_
  rw [nI_add]
  refine pI13_328 rfl dX13_feed_108 ?_
  obtain ⟨n15, q15⟩ : ∃ m, m = up (up n14 1001 (k + 14) (bv d 8)) 1000 6 (nI (k + 14 + 1)) := ⟨_, rfl⟩
  rw [show up (up n14 1001 (k + 14) (((d >>> (nI 8 &&& 31)).toInt8.toInt32).toInt8.toInt32)) 1000 6 (nI (k + 14 + 1)) = n15 from q15.symm]
  have a15 : n15 1000 6 = nI (k + 15) := by rw [q15, up_at]
  have o15 : ∀ z, z ≠ 1000 → z ≠ 1001 → n15 z = m1 z := fun z h0 h1 => by rw [q15, up_off _ _ h0, up_off _ _ h1]; exact o14 z h0 h1
  have z15 : ∀ i, i ≠ 6 → n15 1000 i = m1 1000 i := fun i hi => by rw [q15, up_ne _ _ hi, up_off _ _ (by decide)]; exact z14 i hi
  have t15 : n15 1001 = upd (n14 1001) (k + 14) (bv d 8) := by rw [q15, up_off _ _ (by decide), up_row]
  refine j_iinc1 (lv2 := [_, _, _, _, _, _, _, _]) dX13_feed_111 rfl (by decide) rfl rfl ?_
  rw [show nI 14 + 1 = nI 15 from rfl]
  refine j_goto (tgt := 23) dX13_feed_114 (by decide) ?_
  refine j_iload dX13_feed_23 rfl ?_
  refine j_bipush (v := nI 20) dX13_feed_25 (by decide) ?_
  refine j_icmp_ge (tgt := 117) dX13_feed_27 (by decide) (fun h27 => absurd h27 (by decide)) (fun h27 => ?_)
  refine j_iload dX13_feed_30 rfl ?_
  refine j_iconst (v := nI 4) dX13_feed_32 (by decide) ?_
  refine j_icmp_ge (tgt := 40) dX13_feed_33 (by decide) (fun h33 => ?_) (fun h33 => absurd (by decide) h33)
  refine j_iload dX13_feed_40 rfl ?_
  refine j_bipush (v := nI 8) dX13_feed_42 (by decide) ?_
  refine j_icmp_ge (tgt := 51) dX13_feed_44 (by decide) (fun h44 => ?_) (fun h44 => absurd (by decide) h44)
  refine j_iload dX13_feed_51 rfl ?_
  refine j_bipush (v := nI 12) dX13_feed_53 (by decide) ?_
  refine j_icmp_ge (tgt := 62) dX13_feed_55 (by decide) (fun h55 => ?_) (fun h55 => absurd (by decide) h55)
  refine j_iload dX13_feed_62 rfl ?_
  refine j_bipush (v := nI 16) dX13_feed_64 (by decide) ?_
  refine j_icmp_ge (tgt := 74) dX13_feed_66 (by decide) (fun h66 => absurd h66 (by decide)) (fun h66 => ?_)
  refine j_iload dX13_feed_69 rfl ?_
  refine j_goto (tgt := 76) dX13_feed_71 (by decide) ?_
  refine j_istore (lv2 := [_, _, _, _, _, _, _, _]) dX13_feed_76 (by decide) rfl rfl ?_
  refine j_aload_n dX13_feed_78 rfl rfl ?_
  refine gR13_13 rfl dX13_feed_79 (x1001 hX) ?_
  refine j_aload_n dX13_feed_82 rfl rfl ?_
  refine gI13_328 rfl dX13_feed_83 ?_
  rw [a15]
  refine j_iload dX13_feed_86 rfl ?_
  refine j_bipush (v := nI 24) dX13_feed_88 (by decide) ?_
  refine j_bipush (v := nI 8) dX13_feed_90 (by decide) ?_
  refine j_iload dX13_feed_92 rfl ?_
  refine j_iconst (v := nI 4) dX13_feed_94 (by decide) ?_
  refine j_irem dX13_feed_95 (by decide) ?_
  rw [show nI 15 - nI 15 / nI 4 * nI 4 = nI 3 by decide]
  refine j_imul dX13_feed_96 ?_
  rw [show nI 8 * nI 3 = nI 24 by decide]
  refine j_isub dX13_feed_97 ?_
  rw [show nI 24 - nI 24 = nI 0 by decide]
  refine j_ishr dX13_feed_98 ?_
  refine j_i2b dX13_feed_99 ?_
  refine j_bast rfl (inT (show ln 1001 = 1100 from rfl) (show k + 15 < 1100 by omega) (by decide)) dX13_feed_100 ?_
  rw [nI_clamp (by omega)]
  refine j_aload_n dX13_feed_101 rfl rfl ?_
  refine j_dup dX13_feed_102 rfl ?_
  refine gI13_328 rfl dX13_feed_103 ?_
  rw [up_off _ _ (by decide), a15]
  refine j_iconst (v := nI 1) dX13_feed_106 (by decide) ?_
  refine j_iadd dX13_feed_107 ?_
  rw [nI_add]
  refine pI13_328 rfl dX13_feed_108 ?_
  obtain ⟨n16, q16⟩ : ∃ m, m = up (up n15 1001 (k + 15) (bv d 0)) 1000 6 (nI (k + 15 + 1)) := ⟨_, rfl⟩
  rw [show up (up n15 1001 (k + 15) (((d >>> (nI 0 &&& 31)).toInt8.toInt32).toInt8.toInt32)) 1000 6 (nI (k + 15 + 1)) = n16 from q16.symm]
  have a16 : n16 1000 6 = nI (k + 16) := by rw [q16, up_at]
  have o16 : ∀ z, z ≠ 1000 → z ≠ 1001 → n16 z = m1 z := fun z h0 h1 => by rw [q16, up_off _ _ h0, up_off _ _ h1]; exact o15 z h0 h1
  have z16 : ∀ i, i ≠ 6 → n16 1000 i = m1 1000 i := fun i hi => by rw [q16, up_ne _ _ hi, up_off _ _ (by decide)]; exact z15 i hi
  have t16 : n16 1001 = upd (n15 1001) (k + 15) (bv d 0) := by rw [q16, up_off _ _ (by decide), up_row]
  refine j_iinc1 (lv2 := [_, _, _, _, _, _, _, _]) dX13_feed_111 rfl (by decide) rfl rfl ?_
  rw [show nI 15 + 1 = nI 16 from rfl]
  refine j_goto (tgt := 23) dX13_feed_114 (by decide) ?_
  refine j_iload dX13_feed_23 rfl ?_
  refine j_bipush (v := nI 20) dX13_feed_25 (by decide) ?_
  refine j_icmp_ge (tgt := 117) dX13_feed_27 (by decide) (fun h27 => absurd h27 (by decide)) (fun h27 => ?_)
  refine j_iload dX13_feed_30 rfl ?_
  refine j_iconst (v := nI 4) dX13_feed_32 (by decide) ?_
  refine j_icmp_ge (tgt := 40) dX13_feed_33 (by decide) (fun h33 => ?_) (fun h33 => absurd (by decide) h33)
  refine j_iload dX13_feed_40 rfl ?_
  refine j_bipush (v := nI 8) dX13_feed_42 (by decide) ?_
  refine j_icmp_ge (tgt := 51) dX13_feed_44 (by decide) (fun h44 => ?_) (fun h44 => absurd (by decide) h44)
  refine j_iload dX13_feed_51 rfl ?_
  refine j_bipush (v := nI 12) dX13_feed_53 (by decide) ?_
  refine j_icmp_ge (tgt := 62) dX13_feed_55 (by decide) (fun h55 => ?_) (fun h55 => absurd (by decide) h55)
  refine j_iload dX13_feed_62 rfl ?_
  refine j_bipush (v := nI 16) dX13_feed_64 (by decide) ?_
  refine j_icmp_ge (tgt := 74) dX13_feed_66 (by decide) (fun h66 => ?_) (fun h66 => absurd (by decide) h66)
  refine j_iload dX13_feed_74 rfl ?_
  refine j_istore (lv2 := [_, _, _, _, _, _, _, _]) dX13_feed_76 (by decide) rfl rfl ?_
  refine j_aload_n dX13_feed_78 rfl rfl ?_
  refine gR13_13 rfl dX13_feed_79 (x1001 hX) ?_
  refine j_aload_n dX13_feed_82 rfl rfl ?_
  refine gI13_328 rfl dX13_feed_83 ?_
  rw [a16]
  refine j_iload dX13_feed_86 rfl ?_
  refine j_bipush (v := nI 24) dX13_feed_88 (by decide) ?_
  refine j_bipush (v := nI 8) dX13_feed_90 (by decide) ?_
  refine j_iload dX13_feed_92 rfl ?_
  refine j_iconst (v := nI 4) dX13_feed_94 (by decide) ?_
  refine j_irem dX13_feed_95 (by decide) ?_
  rw [show nI 16 - nI 16 / nI 4 * nI 4 = nI 0 by decide]
  refine j_imul dX13_feed_96 ?_
  rw [show nI 8 * nI 0 = nI 0 by decide]
  refine j_isub dX13_feed_97 ?_
  rw [show nI 24 - nI 0 = nI 24 by decide]
  refine j_ishr dX13_feed_98 ?_
  refine j_i2b dX13_feed_99 ?_
  refine j_bast rfl (inT (show ln 1001 = 1100 from rfl) (show k + 16 < 1100 by omega) (by decide)) dX13_feed_100 ?_
  rw [nI_clamp (by omega)]
  refine j_aload_n dX13_feed_101 rfl rfl ?_
  refine j_dup dX13_feed_102 rfl ?_
  refine gI13_328 rfl dX13_feed_103 ?_
  rw [up_off _ _ (by decide), a16]
  refine j_iconst (v := nI 1) dX13_feed_106 (by decide) ?_
  refine j_iadd dX13_feed_107 ?_
  rw [nI_add]
  refine pI13_328 rfl dX13_feed_108 ?_
  obtain ⟨n17, q17⟩ : ∃ m, m = up (up n16 1001 (k + 16) (bv e 24)) 1000 6 (nI (k + 16 + 1)) := ⟨_, rfl⟩
  rw [show up (up n16 1001 (k + 16) (((e >>> (nI 24 &&& 31)).toInt8.toInt32).toInt8.toInt32)) 1000 6 (nI (k + 16 + 1)) = n17 from q17.symm]
  have a17 : n17 1000 6 = nI (k + 17) := by rw [q17, up_at]
  have o17 : ∀ z, z ≠ 1000 → z ≠ 1001 → n17 z = m1 z := fun z h0 h1 => by rw [q17, up_off _ _ h0, up_off _ _ h1]; exact o16 z h0 h1
  have z17 : ∀ i, i ≠ 6 → n17 1000 i = m1 1000 i := fun i hi => by rw [q17, up_ne _ _ hi, up_off _ _ (by decide)]; exact z16 i hi
  have t17 : n17 1001 = upd (n16 1001) (k + 16) (bv e 24) := by rw [q17, up_off _ _ (by decide), up_row]
  refine j_iinc1 (lv2 := [_, _, _, _, _, _, _, _]) dX13_feed_111 rfl (by decide) rfl rfl ?_
  rw [show nI 16 + 1 = nI 17 from rfl]
  refine j_goto (tgt := 23) dX13_feed_114 (by decide) ?_
  refine j_iload dX13_feed_23 rfl ?_
  refine j_bipush (v := nI 20) dX13_feed_25 (by decide) ?_
  refine j_icmp_ge (tgt := 117) dX13_feed_27 (by decide) (fun h27 => absurd h27 (by decide)) (fun h27 => ?_)
  refine j_iload dX13_feed_30 rfl ?_
  refine j_iconst (v := nI 4) dX13_feed_32 (by decide) ?_
  refine j_icmp_ge (tgt := 40) dX13_feed_33 (by decide) (fun h33 => ?_) (fun h33 => absurd (by decide) h33)
  refine j_iload dX13_feed_40 rfl ?_
  refine j_bipush (v := nI 8) dX13_feed_42 (by decide) ?_
  refine j_icmp_ge (tgt := 51) dX13_feed_44 (by decide) (fun h44 => ?_) (fun h44 => absurd (by decide) h44)
  refine j_iload dX13_feed_51 rfl ?_
  refine j_bipush (v := nI 12) dX13_feed_53 (by decide) ?_
  refine j_icmp_ge (tgt := 62) dX13_feed_55 (by decide) (fun h55 => ?_) (fun h55 => absurd (by decide) h55)
  refine j_iload dX13_feed_62 rfl ?_
  refine j_bipush (v := nI 16) dX13_feed_64 (by decide) ?_
  refine j_icmp_ge (tgt := 74) dX13_feed_66 (by decide) (fun h66 => ?_) (fun h66 => absurd (by decide) h66)
  refine j_iload dX13_feed_74 rfl ?_
  refine j_istore (lv2 := [_, _, _, _, _, _, _, _]) dX13_feed_76 (by decide) rfl rfl ?_
  refine j_aload_n dX13_feed_78 rfl rfl ?_
  refine gR13_13 rfl dX13_feed_79 (x1001 hX) ?_
  refine j_aload_n dX13_feed_82 rfl rfl ?_
  refine gI13_328 rfl dX13_feed_83 ?_
  rw [a17]
  refine j_iload dX13_feed_86 rfl ?_
  refine j_bipush (v := nI 24) dX13_feed_88 (by decide) ?_
  refine j_bipush (v := nI 8) dX13_feed_90 (by decide) ?_
  refine j_iload dX13_feed_92 rfl ?_
  refine j_iconst (v := nI 4) dX13_feed_94 (by decide) ?_
  refine j_irem dX13_feed_95 (by decide) ?_
  rw [show nI 17 - nI 17 / nI 4 * nI 4 = nI 1 by decide]
  refine j_imul dX13_feed_96 ?_
  rw [show nI 8 * nI 1 = nI 8 by decide]
  refine j_isub dX13_feed_97 ?_
  rw [show nI 24 - nI 8 = nI 16 by decide]
  refine j_ishr dX13_feed_98 ?_
  refine j_i2b dX13_feed_99 ?_
  refine j_bast rfl (inT (show ln 1001 = 1100 from rfl) (show k + 17 < 1100 by omega) (by decide)) dX13_feed_100 ?_
  rw [nI_clamp (by omega)]
  refine j_aload_n dX13_feed_101 rfl rfl ?_
  refine j_dup dX13_feed_102 rfl ?_
  refine gI13_328 rfl dX13_feed_103 ?_
  rw [up_off _ _ (by decide), a17]
  refine j_iconst (v := nI 1) dX13_feed_106 (by decide) ?_
  refine j_iadd dX13_feed_107 ?_
  rw [nI_add]
  refine pI13_328 rfl dX13_feed_108 ?_
  obtain ⟨n18, q18⟩ : ∃ m, m = up (up n17 1001 (k + 17) (bv e 16)) 1000 6 (nI (k + 17 + 1)) := ⟨_, rfl⟩
  rw [show up (up n17 1001 (k + 17) (((e >>> (nI 16 &&& 31)).toInt8.toInt32).toInt8.toInt32)) 1000 6 (nI (k + 17 + 1)) = n18 from q18.symm]
  have a18 : n18 1000 6 = nI (k + 18) := by rw [q18, up_at]
  have o18 : ∀ z, z ≠ 1000 → z ≠ 1001 → n18 z = m1 z := fun z h0 h1 => by rw [q18, up_off _ _ h0, up_off _ _ h1]; exact o17 z h0 h1
  have z18 : ∀ i, i ≠ 6 → n18 1000 i = m1 1000 i := fun i hi => by rw [q18, up_ne _ _ hi, up_off _ _ (by decide)]; exact z17 i hi
  have t18 : n18 1001 = upd (n17 1001) (k + 17) (bv e 16) := by rw [q18, up_off _ _ (by decide), up_row]
  refine j_iinc1 (lv2 := [_, _, _, _, _, _, _, _]) dX13_feed_111 rfl (by decide) rfl rfl ?_
  rw [show nI 17 + 1 = nI 18 from rfl]
  refine j_goto (tgt := 23) dX13_feed_114 (by decide) ?_
  refine j_iload dX13_feed_23 rfl ?_
  refine j_bipush (v := nI 20) dX13_feed_25 (by decide) ?_
  refine j_icmp_ge (tgt := 117) dX13_feed_27 (by decide) (fun h27 => absurd h27 (by decide)) (fun h27 => ?_)
  refine j_iload dX13_feed_30 rfl ?_
  refine j_iconst (v := nI 4) dX13_feed_32 (by decide) ?_
  refine j_icmp_ge (tgt := 40) dX13_feed_33 (by decide) (fun h33 => ?_) (fun h33 => absurd (by decide) h33)
  refine j_iload dX13_feed_40 rfl ?_
  refine j_bipush (v := nI 8) dX13_feed_42 (by decide) ?_
  refine j_icmp_ge (tgt := 51) dX13_feed_44 (by decide) (fun h44 => ?_) (fun h44 => absurd (by decide) h44)
  refine j_iload dX13_feed_51 rfl ?_
  refine j_bipush (v := nI 12) dX13_feed_53 (by decide) ?_
  refine j_icmp_ge (tgt := 62) dX13_feed_55 (by decide) (fun h55 => ?_) (fun h55 => absurd (by decide) h55)
  refine j_iload dX13_feed_62 rfl ?_
  refine j_bipush (v := nI 16) dX13_feed_64 (by decide) ?_
  refine j_icmp_ge (tgt := 74) dX13_feed_66 (by decide) (fun h66 => ?_) (fun h66 => absurd (by decide) h66)
  refine j_iload dX13_feed_74 rfl ?_
  refine j_istore (lv2 := [_, _, _, _, _, _, _, _]) dX13_feed_76 (by decide) rfl rfl ?_
  refine j_aload_n dX13_feed_78 rfl rfl ?_
  refine gR13_13 rfl dX13_feed_79 (x1001 hX) ?_
  refine j_aload_n dX13_feed_82 rfl rfl ?_
  refine gI13_328 rfl dX13_feed_83 ?_
  rw [a18]
  refine j_iload dX13_feed_86 rfl ?_
  refine j_bipush (v := nI 24) dX13_feed_88 (by decide) ?_
  refine j_bipush (v := nI 8) dX13_feed_90 (by decide) ?_
  refine j_iload dX13_feed_92 rfl ?_
  refine j_iconst (v := nI 4) dX13_feed_94 (by decide) ?_
  refine j_irem dX13_feed_95 (by decide) ?_
  rw [show nI 18 - nI 18 / nI 4 * nI 4 = nI 2 by decide]
  refine j_imul dX13_feed_96 ?_
  rw [show nI 8 * nI 2 = nI 16 by decide]
  refine j_isub dX13_feed_97 ?_
  rw [show nI 24 - nI 16 = nI 8 by decide]
  refine j_ishr dX13_feed_98 ?_
  refine j_i2b dX13_feed_99 ?_
  refine j_bast rfl (inT (show ln 1001 = 1100 from rfl) (show k + 18 < 1100 by omega) (by decide)) dX13_feed_100 ?_
  rw [nI_clamp (by omega)]
  refine j_aload_n dX13_feed_101 rfl rfl ?_
  refine j_dup dX13_feed_102 rfl ?_
  refine gI13_328 rfl dX13_feed_103 ?_
  rw [up_off _ _ (by decide), a18]
  refine j_iconst (v := nI 1) dX13_feed_106 (by decide) ?_
  refine j_iadd dX13_feed_107 ?_
  rw [nI_add]
  refine pI13_328 rfl dX13_feed_108 ?_
  obtain ⟨n19, q19⟩ : ∃ m, m = up (up n18 1001 (k + 18) (bv e 8)) 1000 6 (nI (k + 18 + 1)) := ⟨_, rfl⟩
  rw [show up (up n18 1001 (k + 18) (((e >>> (nI 8 &&& 31)).toInt8.toInt32).toInt8.toInt32)) 1000 6 (nI (k + 18 + 1)) = n19 from q19.symm]
  have a19 : n19 1000 6 = nI (k + 19) := by rw [q19, up_at]
  have o19 : ∀ z, z ≠ 1000 → z ≠ 1001 → n19 z = m1 z := fun z h0 h1 => by rw [q19, up_off _ _ h0, up_off _ _ h1]; exact o18 z h0 h1
  have z19 : ∀ i, i ≠ 6 → n19 1000 i = m1 1000 i := fun i hi => by rw [q19, up_ne _ _ hi, up_off _ _ (by decide)]; exact z18 i hi
  have t19 : n19 1001 = upd (n18 1001) (k + 18) (bv e 8) := by rw [q19, up_off _ _ (by decide), up_row]
  refine j_iinc1 (lv2 := [_, _, _, _, _, _, _, _]) dX13_feed_111 rfl (by decide) rfl rfl ?_
  rw [show nI 18 + 1 = nI 19 from rfl]
  refine j_goto (tgt := 23) dX13_feed_114 (by decide) ?_
  refine j_iload dX13_feed_23 rfl ?_
  refine j_bipush (v := nI 20) dX13_feed_25 (by decide) ?_
  refine j_icmp_ge (tgt := 117) dX13_feed_27 (by decide) (fun h27 => absurd h27 (by decide)) (fun h27 => ?_)
  refine j_iload dX13_feed_30 rfl ?_
  refine j_iconst (v := nI 4) dX13_feed_32 (by decide) ?_
  refine j_icmp_ge (tgt := 40) dX13_feed_33 (by decide) (fun h33 => ?_) (fun h33 => absurd (by decide) h33)
  refine j_iload dX13_feed_40 rfl ?_
  refine j_bipush (v := nI 8) dX13_feed_42 (by decide) ?_
  refine j_icmp_ge (tgt := 51) dX13_feed_44 (by decide) (fun h44 => ?_) (fun h44 => absurd (by decide) h44)
  refine j_iload dX13_feed_51 rfl ?_
  refine j_bipush (v := nI 12) dX13_feed_53 (by decide) ?_
  refine j_icmp_ge (tgt := 62) dX13_feed_55 (by decide) (fun h55 => ?_) (fun h55 => absurd (by decide) h55)
  refine j_iload dX13_feed_62 rfl ?_
  refine j_bipush (v := nI 16) dX13_feed_64 (by decide) ?_
  refine j_icmp_ge (tgt := 74) dX13_feed_66 (by decide) (fun h66 => ?_) (fun h66 => absurd (by decide) h66)
  refine j_iload dX13_feed_74 rfl ?_
  refine j_istore (lv2 := [_, _, _, _, _, _, _, _]) dX13_feed_76 (by decide) rfl rfl ?_
  refine j_aload_n dX13_feed_78 rfl rfl ?_
  refine gR13_13 rfl dX13_feed_79 (x1001 hX) ?_
  refine j_aload_n dX13_feed_82 rfl rfl ?_
  refine gI13_328 rfl dX13_feed_83 ?_
  rw [a19]
  refine j_iload dX13_feed_86 rfl ?_
  refine j_bipush (v := nI 24) dX13_feed_88 (by decide) ?_
  refine j_bipush (v := nI 8) dX13_feed_90 (by decide) ?_
  refine j_iload dX13_feed_92 rfl ?_
  refine j_iconst (v := nI 4) dX13_feed_94 (by decide) ?_
  refine j_irem dX13_feed_95 (by decide) ?_
  rw [show nI 19 - nI 19 / nI 4 * nI 4 = nI 3 by decide]
  refine j_imul dX13_feed_96 ?_
  rw [show nI 8 * nI 3 = nI 24 by decide]
  refine j_isub dX13_feed_97 ?_
  rw [show nI 24 - nI 24 = nI 0 by decide]
  refine j_ishr dX13_feed_98 ?_
  refine j_i2b dX13_feed_99 ?_
  refine j_bast rfl (inT (show ln 1001 = 1100 from rfl) (show k + 19 < 1100 by omega) (by decide)) dX13_feed_100 ?_
  rw [nI_clamp (by omega)]
  refine j_aload_n dX13_feed_101 rfl rfl ?_
  refine j_dup dX13_feed_102 rfl ?_
  refine gI13_328 rfl dX13_feed_103 ?_
  rw [up_off _ _ (by decide), a19]
  refine j_iconst (v := nI 1) dX13_feed_106 (by decide) ?_
  refine j_iadd dX13_feed_107 ?_
  rw [nI_add]
  refine pI13_328 rfl dX13_feed_108 ?_
  obtain ⟨n20, q20⟩ : ∃ m, m = up (up n19 1001 (k + 19) (bv e 0)) 1000 6 (nI (k + 19 + 1)) := ⟨_, rfl⟩
  rw [show up (up n19 1001 (k + 19) (((e >>> (nI 0 &&& 31)).toInt8.toInt32).toInt8.toInt32)) 1000 6 (nI (k + 19 + 1)) = n20 from q20.symm]
  have a20 : n20 1000 6 = nI (k + 20) := by rw [q20, up_at]
  have o20 : ∀ z, z ≠ 1000 → z ≠ 1001 → n20 z = m1 z := fun z h0 h1 => by rw [q20, up_off _ _ h0, up_off _ _ h1]; exact o19 z h0 h1
  have z20 : ∀ i, i ≠ 6 → n20 1000 i = m1 1000 i := fun i hi => by rw [q20, up_ne _ _ hi, up_off _ _ (by decide)]; exact z19 i hi
  have t20 : n20 1001 = upd (n19 1001) (k + 19) (bv e 0) := by rw [q20, up_off _ _ (by decide), up_row]
  refine j_iinc1 (lv2 := [_, _, _, _, _, _, _, _]) dX13_feed_111 rfl (by decide) rfl rfl ?_
  rw [show nI 19 + 1 = nI 20 from rfl]
  refine j_goto (tgt := 23) dX13_feed_114 (by decide) ?_
  refine j_iload dX13_feed_23 rfl ?_
  refine j_bipush (v := nI 20) dX13_feed_25 (by decide) ?_
  refine j_icmp_ge (tgt := 117) dX13_feed_27 (by decide) (fun h27 => ?_) (fun h27 => absurd (by decide) h27)
  refine j_aload_n dX13_feed_117 rfl rfl ?_
  refine gI13_328 rfl dX13_feed_118 ?_
  rw [a20]
  refine j_iret rfl dX13_feed_121 ?_
  refine hp n20 (fun z h0 h1 => ?_) ?_ a20 ?_ (fun j h0 h6 => ?_)
  · rw [o20 z h0 h1, e1, up_off _ _ h0]
  · rw [t20, t19, t18, t17, t16, t15, t14, t13, t12, t11, t10, t9, t8, t7, t6, t5, t4, t3, t2, t1, q0, e1, up_off _ _ (by decide)]; rfl
  · rw [z20 0 (by decide), e1, up_at]; rfl
  · rw [z20 j h6, e1, up_ne _ _ h0]
theorem mx_feedN {k : Nat} {a b c d e : Int32}  (h_taped : mi 1000 6 = nI k) (hk1 : k ≤ 1100) (hk : ¬ k + 20 ≤ 1100) (hp : post (some (.int (-1))) (up mi 1000 0 0) ml mr dom) : CT G 1 0 0 yX13_feed cX13_feed 8 (some .int) [.ref 1000, .int a, .int b, .int c, .int d, .int e] mi ml mr dom post := by
  refine enter 2 (by decide) rfl rfl (fun X => ?_)
  refine j_aload_n dX13_feed_0 rfl rfl ?_
  refine j_iconst (v := nI 0) dX13_feed_1 (by decide) ?_
  refine pI13_51 rfl dX13_feed_2 ?_
  obtain ⟨m1, e1⟩ : ∃ m, m = up mi 1000 0 (nI 0) := ⟨_, rfl⟩
  rw [← e1]
  refine j_aload_n dX13_feed_5 rfl rfl ?_
  refine gI13_328 rfl dX13_feed_6 ?_
  rw [show m1 1000 6 = nI k by rw [e1, up_ne _ _ (by decide)]; exact h_taped]
  refine j_bipush (v := nI 20) dX13_feed_9 (by decide) ?_
  refine j_iadd dX13_feed_11 ?_
  rw [nI_add]
  refine j_sipush (v := nI 1100) dX13_feed_12 (by decide) ?_
  refine j_icmp_le (tgt := 20) dX13_feed_15 (by decide) (fun h15 => by exfalso; rw [nI_leI (by omega) (by omega)] at h15; omega) (fun h15 => ?_)
  refine j_iconst (v := -1) dX13_feed_18 (by decide) ?_
  refine j_iret rfl dX13_feed_19 ?_
  rw [e1]; exact hp
end M13g
