/-! arraycopy; the class: Present -/
theorem wdC_n : Cond.native arraycopyName ∈ wtbl := wt4 217 (by decide +kernel) (by decide +kernel)
theorem wdC_s : Cond.static arraycopyName ∈ wtbl := wt4 216 (by decide +kernel) (by decide +kernel)
def cpm (mi : MI) (a0 a sp dp n : Nat) : MI := fun x i => if x = a then va_cpy (mi a0) (mi a) sp dp n i else mi x i
theorem cpm_row (mi : MI) (a0 a sp dp n : Nat) : cpm mi a0 a sp dp n a = va_cpy (mi a0) (mi a) sp dp n := by funext i; simp [cpm]
theorem cpm_off (mi : MI) {a0 a sp dp n x : Nat} (h : x ≠ a) : cpm mi a0 a sp dp n x = mi x := by funext i; simp [cpm, h]
section CP
variable {cc : ByteArray} {nL : Nat} {own nm : String} {rt : Option FieldType} {d : Nat} {G : GG} {X : Cx} {post : PT} {bc bs : Nat} {mi : MI} {ml : ML} {mr : MR} {dom : List Nat} {pc : Nat} {lv : List (Option Value)} {st : List Value} {a a0 : Nat}
theorem j_copy {index : Nat} {sp dp n : Int32} (hlink : Cond.methodLink own index arraycopyName ∈ wtbl) (hk0 : kd a0 = 15) (hk : kd a = 15) (h1 : ¬ sp < 0) (h2 : ¬ dp < 0) (h3 : ¬ n < 0) (h4 : sp.toNatClampNeg + n.toNatClampNeg ≤ ln a0) (h5 : dp.toNatClampNeg + n.toNatClampNeg ≤ ln a) (hd : decode cc pc = .ok (.invokestatic index, 3)) (hdd : 1 ≤ d) (hst : (st.map fun v => v.category).sum ≤ 8) (kk : J cc nL own nm rt d G X post bc bs (cpm mi a0 a sp.toNatClampNeg dp.toNatClampNeg n.toNatClampNeg) ml mr dom (pc + 3) lv st) : J cc nL own nm rt d G X post bc bs mi ml mr dom pc lv (.int n :: .int dp :: .ref a :: .int sp :: .ref a0 :: st) := by
  obtain ⟨p, l, e, R, s, m, args, below, meth, c, ad0, dom0⟩ := X
  intro ok ad H locs cells slots ls hR hS hE hc2 hs hl hol hos
  have ha : a ∈ dom := in_dom hos.t.t (by omega)
  have ha0 : a0 ∈ dom := in_dom hos.t.t.t.t (by omega)
  obtain ⟨q, hq, hw⟩ := wl_get (G := G) (ad := ad) (mi := mi) (ml := ml) (mr := mr) ha
  obtain ⟨q2, hq2, hw2⟩ := wl_get (G := G) (ad := ad) (mi := mi) (ml := ml) (mr := mr) ha0
  rw [cel_int hk (by omega) (by omega)] at hw
  rw [cel_int hk0 (by omega) (by omega)] at hw2
  have hnf : nativeFrameWords "java/lang/System" "arraycopy" 5 ≤ 40 := by decide
  refine va_copyi ok.1 ok.2.1 (ok.2.2.1.trans hl.1.symm) ok.2.2.2.1 (ok.2.2.2.2.1 _ hlink) (ok.2.2.2.2.1 _ wdC_n) (ok.2.2.2.2.1 _ wdC_s) (ok.2.2.2.2.1 _ wd127) ok.2.2.2.2.2.1.1 hR.1 hR.2.1 hS q2 q 1 1 hw2 hw rfl rfl rfl h1 h2 h3 h4 h5 (fun i _ => rfl) (by rw [ok.2.2.2.2.2.2.2.2.2.1]; exact hdd) ?_ hd (fun H1 locs1 hP1 hD1 hS1 => ?_)
  · rw [ok.2.2.2.2.2.2.2.2.2.2, rn_cats]; omega
  · rw [wl_set (mi2 := cpm mi a0 a sp.toNatClampNeg dp.toNatClampNeg n.toNatClampNeg) hR.2.1 hq (by rw [cel_int hk (by omega) (by omega), cpm_row]) (fun n hn => cel_congr (cpm_off _ hn) rfl rfl)] at hP1 hD1
    exact kk ok ad H1 locs1 cells slots ls ⟨hP1, hD1, hR.2.2⟩ hS1 hE hc2 hs hl hol hos.t.t.t.t.t
theorem wdC0_115 : Cond.methodLink RX0 115 arraycopyName ∈ wtbl := wt4 215 (by decide +kernel) (by decide +kernel)
theorem wdC4_64 : Cond.methodLink RX4 64 arraycopyName ∈ wtbl := wt5 142 (by decide +kernel) (by decide +kernel)
end CP
section C4
variable {G : GG} {post : PT} {mi : MI} {ml : ML} {mr : MR} {dom : List Nat} {T : Nat} {t : TW}
theorem tX4_placeOf {p : Int32} (hX : XR mr) (hi : vp_in p 13) (hp : post (some (.int (mi 9 (Int32.toNatClampNeg p)))) mi ml mr dom) : CT G 1 0 0 yX4_placeOf cX4_placeOf 2 (some .int) [.ref 8, .int p] mi ml mr dom post := by
  refine enter 0 (by decide) rfl rfl (fun X => ?_)
  refine j_aload_n dX4_placeOf_0 rfl rfl ?_
  refine gR4_18 rfl dX4_placeOf_1 (x_cells hX) ?_
  refine j_iload_n dX4_placeOf_4 rfl rfl ?_
  refine j_iald rfl hi dX4_placeOf_5 ?_
  refine j_iret rfl dX4_placeOf_6 ?_
  exact hp
theorem tX4_placeOfGood {g : Int32} (hX : XR mr) (hi : vp_in (6 + g) 13) (hp : post (some (.int (mi 9 (Int32.toNatClampNeg (6 + g))))) mi ml mr dom) : CT G 1 0 0 yX4_placeOfGood cX4_placeOfGood 2 (some .int) [.ref 8, .int g] mi ml mr dom post := by
  refine enter 0 (by decide) rfl rfl (fun X => ?_)
  refine j_aload_n dX4_placeOfGood_0 rfl rfl ?_
  refine gR4_18 rfl dX4_placeOfGood_1 (x_cells hX) ?_
  refine j_bipush (v := 6) dX4_placeOfGood_4 (by decide) ?_
  refine j_iload_n dX4_placeOfGood_6 rfl rfl ?_
  refine j_iadd dX4_placeOfGood_7 ?_
  refine j_iald rfl hi dX4_placeOfGood_8 ?_
  refine j_iret rfl dX4_placeOfGood_9 ?_
  exact hp
theorem tX4_hour  (hX : XR mr) (hp : post (some (.int (mi 9 (Int32.toNatClampNeg 11)))) mi ml mr dom) : CT G 1 0 0 yX4_hour cX4_hour 1 (some .int) [.ref 8] mi ml mr dom post := by
  refine enter 0 (by decide) rfl rfl (fun X => ?_)
  refine j_aload_n dX4_hour_0 rfl rfl ?_
  refine gR4_18 rfl dX4_hour_1 (x_cells hX) ?_
  refine j_bipush (v := 11) dX4_hour_4 (by decide) ?_
  refine j_iald rfl (vp_in_nI (n := 11) (by decide) (by decide)) dX4_hour_6 ?_
  refine j_iret rfl dX4_hour_7 ?_
  exact hp
theorem tX4_dayNumber  (hX : XR mr) (hp : post (some (.int (mi 9 (Int32.toNatClampNeg 12)))) mi ml mr dom) : CT G 1 0 0 yX4_dayNumber cX4_dayNumber 1 (some .int) [.ref 8] mi ml mr dom post := by
  refine enter 0 (by decide) rfl rfl (fun X => ?_)
  refine j_aload_n dX4_dayNumber_0 rfl rfl ?_
  refine gR4_18 rfl dX4_dayNumber_1 (x_cells hX) ?_
  refine j_bipush (v := 12) dX4_dayNumber_4 (by decide) ?_
  refine j_iald rfl (vp_in_nI (n := 12) (by decide) (by decide)) dX4_dayNumber_6 ?_
  refine j_iret rfl dX4_dayNumber_7 ?_
  exact hp
theorem tX4_movePerson {p : Int32} {h : Int32} (hX : XR mr) (hi : vp_in p 13) (hp : post none (up mi 9 (Int32.toNatClampNeg p) h) ml mr dom) : CT G 1 0 0 yX4_movePerson cX4_movePerson 3 none [.ref 8, .int p, .int h] mi ml mr dom post := by
  refine enter 0 (by decide) rfl rfl (fun X => ?_)
  refine j_aload_n dX4_movePerson_0 rfl rfl ?_
  refine gR4_18 rfl dX4_movePerson_1 (x_cells hX) ?_
  refine j_iload_n dX4_movePerson_4 rfl rfl ?_
  refine j_iload_n dX4_movePerson_5 rfl rfl ?_
  refine j_iast rfl hi dX4_movePerson_6 ?_
  refine j_vret rfl dX4_movePerson_7 ?_
  exact hp
theorem tX4_moveGood {g : Int32} {h : Int32} (hX : XR mr) (hi : vp_in (6 + g) 13) (hp : post none (up mi 9 (Int32.toNatClampNeg (6 + g)) h) ml mr dom) : CT G 1 0 0 yX4_moveGood cX4_moveGood 3 none [.ref 8, .int g, .int h] mi ml mr dom post := by
  refine enter 0 (by decide) rfl rfl (fun X => ?_)
  refine j_aload_n dX4_moveGood_0 rfl rfl ?_
  refine gR4_18 rfl dX4_moveGood_1 (x_cells hX) ?_
  refine j_bipush (v := 6) dX4_moveGood_4 (by decide) ?_
  refine j_iload_n dX4_moveGood_6 rfl rfl ?_
  refine j_iadd dX4_moveGood_7 ?_
  refine j_iload_n dX4_moveGood_8 rfl rfl ?_
  refine j_iast rfl hi dX4_moveGood_9 ?_
  refine j_vret rfl dX4_moveGood_10 ?_
  exact hp
theorem tX4_passHours {n : Int32} (hX : XR mr) (hp : post none (up (up mi 9 (Int32.toNatClampNeg 12) ((mi 9 (Int32.toNatClampNeg 12)) + (((mi 9 (Int32.toNatClampNeg 11)) + n) / 24))) 9 (Int32.toNatClampNeg 11) (((mi 9 (Int32.toNatClampNeg 11)) + n) - ((mi 9 (Int32.toNatClampNeg 11)) + n) / 24 * 24)) ml mr dom) : CT G 1 0 0 yX4_passHours cX4_passHours 3 none [.ref 8, .int n] mi ml mr dom post := by
  refine enter 1 (by decide) rfl rfl (fun X => ?_)
  refine j_aload_n dX4_passHours_0 rfl rfl ?_
  refine gR4_18 rfl dX4_passHours_1 (x_cells hX) ?_
  refine j_bipush (v := 11) dX4_passHours_4 (by decide) ?_
  refine j_iald rfl (vp_in_nI (n := 11) (by decide) (by decide)) dX4_passHours_6 ?_
  refine j_iload_n dX4_passHours_7 rfl rfl ?_
  refine j_iadd dX4_passHours_8 ?_
  refine j_istore_n (lv2 := [_, _, _]) dX4_passHours_9 rfl (by decide) rfl rfl ?_
  refine j_aload_n dX4_passHours_10 rfl rfl ?_
  refine gR4_18 rfl dX4_passHours_11 (x_cells hX) ?_
  refine j_bipush (v := 12) dX4_passHours_14 (by decide) ?_
  refine j_dup2 dX4_passHours_16 rfl rfl ?_
  refine j_iald rfl (vp_in_nI (n := 12) (by decide) (by decide)) dX4_passHours_17 ?_
  refine j_iload_n dX4_passHours_18 rfl rfl ?_
  refine j_bipush (v := 24) dX4_passHours_19 (by decide) ?_
  refine j_idiv dX4_passHours_21 (by decide) ?_
  refine j_iadd dX4_passHours_22 ?_
  refine j_iast rfl (vp_in_nI (n := 12) (by decide) (by decide)) dX4_passHours_23 ?_
  refine j_aload_n dX4_passHours_24 rfl rfl ?_
  refine gR4_18 rfl dX4_passHours_25 (x_cells hX) ?_
  refine j_bipush (v := 11) dX4_passHours_28 (by decide) ?_
  refine j_iload_n dX4_passHours_30 rfl rfl ?_
  refine j_bipush (v := 24) dX4_passHours_31 (by decide) ?_
  refine j_irem dX4_passHours_33 (by decide) ?_
  refine j_iast rfl (vp_in_nI (n := 11) (by decide) (by decide)) dX4_passHours_34 ?_
  refine j_vret rfl dX4_passHours_35 ?_
  exact hp
theorem ring_in {w : Nat} (hw : w < 16) : ¬ nI w * 13 < 0 ∧ (nI w * 13).toNatClampNeg + (13 : Int32).toNatClampNeg ≤ 208 ∧ (nI w * 13).toNatClampNeg = 13 * w := by
  rw [show (13 : Int32) = nI 13 from rfl, pk_mul, nI_clamp (by omega), nI_clamp (by omega)]
  exact ⟨nI_pos (by omega), by omega, by omega⟩
theorem ring3_in {w : Nat} (hw : w < 3) : ¬ nI w * 13 < 0 ∧ (nI w * 13).toNatClampNeg + (13 : Int32).toNatClampNeg ≤ 39 ∧ (nI w * 13).toNatClampNeg = 13 * w := by
  rw [show (13 : Int32) = nI 13 from rfl, pk_mul, nI_clamp (by omega), nI_clamp (by omega)]
  exact ⟨nI_pos (by omega), by omega, by omega⟩
theorem nxt16 {w : Nat} (hw : w < 16) : nI w + 1 - (nI w + 1) / 16 * 16 = nI ((w + 1) % 16) := by
  rw [nI_1, show (16 : Int32) = nI 16 from rfl, pk_rem (by omega) (by omega) (by omega)]
theorem prv16 {w : Nat} (hw : w < 16) : nI w + 16 - 1 - (nI w + 16 - 1) / 16 * 16 = nI ((w + 15) % 16) := by
  rw [show (16 : Int32) = nI 16 from rfl, nI_add, show (1 : Int32) = nI 1 from rfl, pk_sub (by omega), pk_rem (by omega) (by omega) (by omega), show w + 16 - 1 = w + 15 by omega]
theorem c_keep {w k : Nat} (hX : XR mr) (hw : mi 8 4 = nI w) (hw16 : w < 16) (hk : mi 8 0 = nI k) (hk16 : k ≤ 16) (hp : post none (up (cpm (up mi 8 4 (nI ((w + 1) % 16))) 9 10 0 (13 * ((w + 1) % 16)) 13) 8 0 (nI (min (k + 1) 16))) ml mr dom) : CT G 2 0 0 yX4_keep cX4_keep 1 none [.ref 8] mi ml mr dom post := by
  obtain ⟨v, hve⟩ : ∃ v, (w + 1) % 16 = v := ⟨_, rfl⟩
  have hv16 : v < 16 := by omega
  rw [hve] at hp
  refine enter 0 (by decide) rfl rfl (fun X => ?_)
  refine j_aload_n dX4_keep_0 rfl rfl ?_
  refine j_aload_n dX4_keep_1 rfl rfl ?_
  refine gI4_25 rfl dX4_keep_2 ?_
  refine j_iconst (v := 1) dX4_keep_5 (by decide) ?_
  refine j_iadd dX4_keep_6 ?_
  refine j_bipush (v := 16) dX4_keep_7 (by decide) ?_
  refine j_irem dX4_keep_9 (by decide) ?_
  rw [hw, nxt16 hw16, hve]
  refine pI4_25 rfl dX4_keep_10 ?_
  refine j_aload_n dX4_keep_13 rfl rfl ?_
  refine gR4_18 rfl dX4_keep_14 (x_cells hX) ?_
  refine j_iconst (v := 0) dX4_keep_17 (by decide) ?_
  refine j_aload_n dX4_keep_18 rfl rfl ?_
  refine gR4_22 rfl dX4_keep_19 (x_past hX) ?_
  refine j_aload_n dX4_keep_22 rfl rfl ?_
  refine gI4_25 rfl dX4_keep_23 ?_
  rw [up_at]
  refine j_bipush (v := 13) dX4_keep_26 (by decide) ?_
  refine j_imul dX4_keep_28 ?_
  refine j_bipush (v := 13) dX4_keep_29 (by decide) ?_
  refine j_copy wdC4_64 rfl rfl (by decide) (ring_in hv16).1 (by decide) (by decide) (ring_in hv16).2.1 dX4_keep_31 (by decide) (Nat.le_of_ble_eq_true rfl) ?_
  rw [(ring_in hv16).2.2]
  refine j_aload_n dX4_keep_34 rfl rfl ?_
  refine j_aload_n dX4_keep_35 rfl rfl ?_
  refine gI4_11 rfl dX4_keep_36 ?_
  rw [show (cpm (up mi 8 4 (nI v)) 9 10 _ _ _) 8 0 = mi 8 0 by rw [cpm_off _ (by decide), up_ne _ _ (by decide)], hk]
  refine j_iconst (v := 1) dX4_keep_39 (by decide) ?_
  refine j_iadd dX4_keep_40 ?_
  refine j_bipush (v := 16) dX4_keep_41 (by decide) ?_
  rw [nI_1, show (16 : Int32) = nI 16 from rfl]
  refine j_mmin4_70 dX4_keep_43 (by decide) (Nat.le_of_ble_eq_true rfl) ?_
  rw [imin_nI (by omega) (by omega)]
  refine pI4_11 rfl dX4_keep_46 ?_
  refine j_vret rfl dX4_keep_49 ?_
  exact hp
theorem c_takeBack0 (hk : mi 8 0 = 0) (hp : post (some (.int 0)) mi ml mr dom) : CT G 2 0 0 yX4_takeBack cX4_takeBack 1 (some .boolean) [.ref 8] mi ml mr dom post := by
  refine enter 0 (by decide) rfl rfl (fun X => ?_)
  refine j_aload_n dX4_takeBack_0 rfl rfl ?_
  refine gI4_11 rfl dX4_takeBack_1 ?_
  refine j_if_ne (tgt := 9) dX4_takeBack_4 (by decide) (fun h4 => absurd h4 (fun q => q hk)) (fun _ => ?_)
  refine j_iconst (v := 0) dX4_takeBack_7 (by decide) ?_
  refine j_zret rfl (by decide) dX4_takeBack_8 ?_
  exact hp
theorem c_takeBack {w k : Nat} (hX : XR mr) (hw : mi 8 4 = nI w) (hw16 : w < 16) (hk : mi 8 0 = nI (k + 1)) (hk16 : k < 16) (hp : post (some (.int 1)) (up (up (cpm mi 10 9 (13 * w) 0 13) 8 4 (nI ((w + 15) % 16))) 8 0 (nI k)) ml mr dom) : CT G 2 0 0 yX4_takeBack cX4_takeBack 1 (some .boolean) [.ref 8] mi ml mr dom post := by
  refine enter 0 (by decide) rfl rfl (fun X => ?_)
  refine j_aload_n dX4_takeBack_0 rfl rfl ?_
  refine gI4_11 rfl dX4_takeBack_1 ?_
  refine j_if_ne (tgt := 9) dX4_takeBack_4 (by decide) (fun _ => ?_) (fun h4 => absurd h4 (by rw [hk]; exact nI_ne0 (by omega) (by omega)))
  refine j_aload_n dX4_takeBack_9 rfl rfl ?_
  refine gR4_22 rfl dX4_takeBack_10 (x_past hX) ?_
  refine j_aload_n dX4_takeBack_13 rfl rfl ?_
  refine gI4_25 rfl dX4_takeBack_14 ?_
  rw [hw]
  refine j_bipush (v := 13) dX4_takeBack_17 (by decide) ?_
  refine j_imul dX4_takeBack_19 ?_
  refine j_aload_n dX4_takeBack_20 rfl rfl ?_
  refine gR4_18 rfl dX4_takeBack_21 (x_cells hX) ?_
  refine j_iconst (v := 0) dX4_takeBack_24 (by decide) ?_
  refine j_bipush (v := 13) dX4_takeBack_25 (by decide) ?_
  refine j_copy wdC4_64 rfl rfl (ring_in hw16).1 (by decide) (by decide) (ring_in hw16).2.1 (by decide) dX4_takeBack_27 (by decide) (Nat.le_of_ble_eq_true rfl) ?_
  rw [(ring_in hw16).2.2]
  refine j_aload_n dX4_takeBack_30 rfl rfl ?_
  refine j_aload_n dX4_takeBack_31 rfl rfl ?_
  refine gI4_25 rfl dX4_takeBack_32 ?_
  rw [cpm_off _ (by decide), hw]
  refine j_bipush (v := 16) dX4_takeBack_35 (by decide) ?_
  refine j_iadd dX4_takeBack_37 ?_
  refine j_iconst (v := 1) dX4_takeBack_38 (by decide) ?_
  refine j_isub dX4_takeBack_39 ?_
  refine j_bipush (v := 16) dX4_takeBack_40 (by decide) ?_
  refine j_irem dX4_takeBack_42 (by decide) ?_
  rw [prv16 hw16]
  refine pI4_25 rfl dX4_takeBack_43 ?_
  refine j_aload_n dX4_takeBack_46 rfl rfl ?_
  refine j_dup dX4_takeBack_47 rfl ?_
  refine gI4_11 rfl dX4_takeBack_48 ?_
  rw [up_ne _ _ (by decide), cpm_off _ (by decide), hk]
  refine j_iconst (v := 1) dX4_takeBack_51 (by decide) ?_
  refine j_isub dX4_takeBack_52 ?_
  rw [show nI (k + 1) - 1 = nI k from nI_pred k]
  refine pI4_11 rfl dX4_takeBack_53 ?_
  refine j_iconst (v := 1) dX4_takeBack_56 (by decide) ?_
  refine j_zret rfl (by decide) dX4_takeBack_57 ?_
  exact hp
theorem c_draw {k : Nat} (hX : XR mr) (hk : mi 8 1 = nI k) (hk3 : k < 3) (hp : post (some (.int (nI k))) (up (cpm mi 9 11 0 (13 * k) 13) 8 1 (nI (k + 1))) ml mr dom) : CT G 2 0 0 yX4_draw cX4_draw 1 (some .int) [.ref 8] mi ml mr dom post := by
  refine enter 0 (by decide) rfl rfl (fun X => ?_)
  refine j_aload_n dX4_draw_0 rfl rfl ?_
  refine gR4_18 rfl dX4_draw_1 (x_cells hX) ?_
  refine j_iconst (v := 0) dX4_draw_4 (by decide) ?_
  refine j_aload_n dX4_draw_5 rfl rfl ?_
  refine gR4_28 rfl dX4_draw_6 (x_drawn hX) ?_
  refine j_aload_n dX4_draw_9 rfl rfl ?_
  refine gI4_15 rfl dX4_draw_10 ?_
  rw [hk]
  refine j_bipush (v := 13) dX4_draw_13 (by decide) ?_
  refine j_imul dX4_draw_15 ?_
  refine j_bipush (v := 13) dX4_draw_16 (by decide) ?_
  refine j_copy wdC4_64 rfl rfl (by decide) (ring3_in hk3).1 (by decide) (by decide) (ring3_in hk3).2.1 dX4_draw_18 (by decide) (Nat.le_of_ble_eq_true rfl) ?_
  rw [(ring3_in hk3).2.2]
  refine j_aload_n dX4_draw_21 rfl rfl ?_
  refine j_dup dX4_draw_22 rfl ?_
  refine gI4_15 rfl dX4_draw_23 ?_
  rw [cpm_off _ (by decide), hk]
  refine j_iconst (v := 1) dX4_draw_26 (by decide) ?_
  refine j_iadd dX4_draw_27 ?_
  rw [nI_1]
  refine pI4_15 rfl dX4_draw_28 ?_
  refine j_aload_n dX4_draw_31 rfl rfl ?_
  refine gI4_15 rfl dX4_draw_32 ?_
  rw [up_at]
  refine j_iconst (v := 1) dX4_draw_35 (by decide) ?_
  refine j_isub dX4_draw_36 ?_
  rw [show nI (k + 1) - 1 = nI k from nI_pred k]
  refine j_iret rfl dX4_draw_37 ?_
  exact hp
theorem c_returnTo0 {x : Int32} {n : Nat} (hn : mi 8 1 = nI n) (hx : x < 0 ∨ nI n ≤ x) (hp : post (some (.int 0)) mi ml mr dom) : CT G 2 0 0 yX4_returnTo cX4_returnTo 2 (some .boolean) [.ref 8, .int x] mi ml mr dom post := by
  refine enter 0 (by decide) rfl rfl (fun X => ?_)
  refine j_iload_n dX4_returnTo_0 rfl rfl ?_
  refine j_if_lt (tgt := 12) dX4_returnTo_1 (by decide) (fun h1 => ?_) (fun h1 => ?_)
  · refine j_iconst (v := 0) dX4_returnTo_12 (by decide) ?_
    refine j_zret rfl (by decide) dX4_returnTo_13 ?_
    exact hp
  · refine j_iload_n dX4_returnTo_4 rfl rfl ?_
    refine j_aload_n dX4_returnTo_5 rfl rfl ?_
    refine gI4_15 rfl dX4_returnTo_6 ?_
    refine j_icmp_lt (tgt := 14) dX4_returnTo_9 (by decide) (fun h9 => ?_) (fun h9 => ?_)
    · rw [hn] at h9
      exact absurd (hx.resolve_left h1) (Int32.not_le.mpr h9)
    · refine j_iconst (v := 0) dX4_returnTo_12 (by decide) ?_
      refine j_zret rfl (by decide) dX4_returnTo_13 ?_
      exact hp
theorem c_returnTo {j n : Nat} (hX : XR mr) (hn : mi 8 1 = nI n) (hj : j < n) (hn3 : n ≤ 3) (hp : post (some (.int 1)) (up (cpm mi 11 9 (13 * j) 0 13) 8 0 0) ml mr dom) : CT G 2 0 0 yX4_returnTo cX4_returnTo 2 (some .boolean) [.ref 8, .int (nI j)] mi ml mr dom post := by
  have hj3 : j < 3 := by omega
  refine enter 0 (by decide) rfl rfl (fun X => ?_)
  refine j_iload_n dX4_returnTo_0 rfl rfl ?_
  refine j_if_lt (tgt := 12) dX4_returnTo_1 (by decide) (fun h1 => absurd h1 (nI_pos (by omega))) (fun _ => ?_)
  refine j_iload_n dX4_returnTo_4 rfl rfl ?_
  refine j_aload_n dX4_returnTo_5 rfl rfl ?_
  refine gI4_15 rfl dX4_returnTo_6 ?_
  refine j_icmp_lt (tgt := 14) dX4_returnTo_9 (by decide) (fun _ => ?_) (fun h9 => absurd (by rw [hn]; exact nI_lt hj (by omega)) h9)
  refine j_aload_n dX4_returnTo_14 rfl rfl ?_
  refine gR4_28 rfl dX4_returnTo_15 (x_drawn hX) ?_
  refine j_iload_n dX4_returnTo_18 rfl rfl ?_
  refine j_bipush (v := 13) dX4_returnTo_19 (by decide) ?_
  refine j_imul dX4_returnTo_21 ?_
  refine j_aload_n dX4_returnTo_22 rfl rfl ?_
  refine gR4_18 rfl dX4_returnTo_23 (x_cells hX) ?_
  refine j_iconst (v := 0) dX4_returnTo_26 (by decide) ?_
  refine j_bipush (v := 13) dX4_returnTo_27 (by decide) ?_
  refine j_copy wdC4_64 rfl rfl (ring3_in hj3).1 (by decide) (by decide) (ring3_in hj3).2.1 (by decide) dX4_returnTo_29 (by decide) (Nat.le_of_ble_eq_true rfl) ?_
  rw [(ring3_in hj3).2.2]
  refine j_aload_n dX4_returnTo_32 rfl rfl ?_
  refine j_iconst (v := 0) dX4_returnTo_33 (by decide) ?_
  refine pI4_11 rfl dX4_returnTo_34 ?_
  refine j_iconst (v := 1) dX4_returnTo_37 (by decide) ?_
  refine j_zret rfl (by decide) dX4_returnTo_38 ?_
  exact hp
theorem c_peopleAt {h n : Nat} {v : Nat → Nat} (hX : XR mr) (hn : n ≤ 6) (hh : h < 6) (hv : ∀ i, i < n → mi 9 (i) = nI (v (i))) (hvb : ∀ i, i < n → v (i) < 2 ^ 31) (hp : post (some (.int (nI (bst (fun p => decide (v (p) = h)) n)))) mi ml mr dom) : CT G 2 0 0 yX4_peopleAt cX4_peopleAt 5 (some .int) [.ref 8, .int (nI h), .int (nI n)] mi ml mr dom post := by
  refine enter 2 (by decide) rfl rfl (fun X => ?_)
  refine j_iconst (v := 0) dX4_peopleAt_0 (by decide) ?_
  refine j_istore_n (lv2 := [_, _, _, _, _]) dX4_peopleAt_1 rfl (by decide) rfl rfl ?_
  refine j_iconst (v := 0) dX4_peopleAt_2 (by decide) ?_
  refine j_istore (lv2 := [_, _, _, _, _]) dX4_peopleAt_3 (by decide) rfl rfl ?_
  skip
  refine lq (n := n) (H := fun i => J cX4_peopleAt 5 yX4_peopleAt.cls yX4_peopleAt.name (some .int) 2 G X post 0 0 mi ml mr dom 5 [some (.ref 8), some (.int (nI h)), some (.int (nI n)), some (.int (nI (bst (fun p => decide (v (p) = h)) i))), some (.int (nI i))] []) ?_ (fun i hi ih => ?_)
  · skip
    refine j_iload dX4_peopleAt_5 rfl ?_
    refine j_iload_n dX4_peopleAt_7 rfl rfl ?_
    refine j_icmp_ge (tgt := 34) dX4_peopleAt_8 (by decide) (fun _ => ?_) (fun h8 => absurd (nI_le (Nat.le_refl _) (by omega)) h8)
    refine j_iload_n dX4_peopleAt_34 rfl rfl ?_
    refine j_iret rfl dX4_peopleAt_35 ?_
    exact hp
  · skip
    refine j_iload dX4_peopleAt_5 rfl ?_
    refine j_iload_n dX4_peopleAt_7 rfl rfl ?_
    refine j_icmp_ge (tgt := 34) dX4_peopleAt_8 (by decide) (fun h8 => absurd h8 (nI_ge hi (by omega))) (fun _ => ?_)
    refine j_aload_n dX4_peopleAt_11 rfl rfl ?_
    refine j_iload dX4_peopleAt_12 rfl ?_
    refine cV4_57 (d1 := 1) rfl dX4_peopleAt_14 (by decide) (Nat.le_of_ble_eq_true rfl) ?_
    refine tX4_placeOf hX (by exact vp_in_nI (show i < 13 by omega) (by omega)) ?_
    rw [nI_clamp (by omega), hv i hi]
    refine j_iload_n dX4_peopleAt_17 rfl rfl ?_
    refine j_icmp_ne (tgt := 28) dX4_peopleAt_18 (by decide) (fun h18 => ?_) (fun h18 => ?_)
    · refine j_iinc1 (lv2 := [_, _, _, _, _]) dX4_peopleAt_28 rfl (by decide) rfl rfl ?_
      refine j_goto (tgt := 5) dX4_peopleAt_31 (by decide) ?_
      rw [nI_1]
      rw [nI_eq (hvb i hi) (by omega)] at h18
      first
        | (rw [bst, if_neg (by simpa using h18)] at ih; exact ih)
        | (rw [bit_set _ (bst_256 _ (by omega)) _ (by omega)]; rw [bst, if_pos (by simpa using h18)] at ih; exact ih)
    · refine j_iload_n dX4_peopleAt_21 rfl rfl ?_
      refine j_iconst (v := 1) dX4_peopleAt_22 (by decide) ?_
      refine j_iload dX4_peopleAt_23 rfl ?_
      refine j_ishl dX4_peopleAt_25 ?_
      refine j_ior dX4_peopleAt_26 ?_
      refine j_istore_n (lv2 := [_, _, _, _, _]) dX4_peopleAt_27 rfl (by decide) rfl rfl ?_
      refine j_iinc1 (lv2 := [_, _, _, _, _]) dX4_peopleAt_28 rfl (by decide) rfl rfl ?_
      refine j_goto (tgt := 5) dX4_peopleAt_31 (by decide) ?_
      rw [nI_1]
      rw [nI_eq (hvb i hi) (by omega)] at h18
      first
        | (rw [bst, if_neg (by simpa using h18)] at ih; exact ih)
        | (rw [bit_set _ (bst_256 _ (by omega)) _ (by omega)]; rw [bst, if_pos (by simpa using h18)] at ih; exact ih)
theorem c_goodsAt {h n : Nat} {v : Nat → Nat} (hX : XR mr) (hn : n ≤ 5) (hh : h < 6) (hv : ∀ i, i < n → mi 9 (6 + i) = nI (v (6 + i))) (hvb : ∀ i, i < n → v (6 + i) < 2 ^ 31) (hp : post (some (.int (nI (bst (fun p => decide (v (6 + p) = h)) n)))) mi ml mr dom) : CT G 2 0 0 yX4_goodsAt cX4_goodsAt 5 (some .int) [.ref 8, .int (nI h), .int (nI n)] mi ml mr dom post := by
  refine enter 2 (by decide) rfl rfl (fun X => ?_)
  refine j_iconst (v := 0) dX4_goodsAt_0 (by decide) ?_
  refine j_istore_n (lv2 := [_, _, _, _, _]) dX4_goodsAt_1 rfl (by decide) rfl rfl ?_
  refine j_iconst (v := 0) dX4_goodsAt_2 (by decide) ?_
  refine j_istore (lv2 := [_, _, _, _, _]) dX4_goodsAt_3 (by decide) rfl rfl ?_
  skip
  refine lq (n := n) (H := fun i => J cX4_goodsAt 5 yX4_goodsAt.cls yX4_goodsAt.name (some .int) 2 G X post 0 0 mi ml mr dom 5 [some (.ref 8), some (.int (nI h)), some (.int (nI n)), some (.int (nI (bst (fun p => decide (v (6 + p) = h)) i))), some (.int (nI i))] []) ?_ (fun i hi ih => ?_)
  · skip
    refine j_iload dX4_goodsAt_5 rfl ?_
    refine j_iload_n dX4_goodsAt_7 rfl rfl ?_
    refine j_icmp_ge (tgt := 34) dX4_goodsAt_8 (by decide) (fun _ => ?_) (fun h8 => absurd (nI_le (Nat.le_refl _) (by omega)) h8)
    refine j_iload_n dX4_goodsAt_34 rfl rfl ?_
    refine j_iret rfl dX4_goodsAt_35 ?_
    exact hp
  · skip
    refine j_iload dX4_goodsAt_5 rfl ?_
    refine j_iload_n dX4_goodsAt_7 rfl rfl ?_
    refine j_icmp_ge (tgt := 34) dX4_goodsAt_8 (by decide) (fun h8 => absurd h8 (nI_ge hi (by omega))) (fun _ => ?_)
    refine j_aload_n dX4_goodsAt_11 rfl rfl ?_
    refine j_iload dX4_goodsAt_12 rfl ?_
    refine cV4_61 (d1 := 1) rfl dX4_goodsAt_14 (by decide) (Nat.le_of_ble_eq_true rfl) ?_
    refine tX4_placeOfGood hX (by rw [show (6 : Int32) = nI 6 from rfl, nI_add]; exact vp_in_nI (show 6 + i < 13 by omega) (by omega)) ?_
    rw [show (6 : Int32) = nI 6 from rfl, nI_add, nI_clamp (by omega), hv i hi]
    refine j_iload_n dX4_goodsAt_17 rfl rfl ?_
    refine j_icmp_ne (tgt := 28) dX4_goodsAt_18 (by decide) (fun h18 => ?_) (fun h18 => ?_)
    · refine j_iinc1 (lv2 := [_, _, _, _, _]) dX4_goodsAt_28 rfl (by decide) rfl rfl ?_
      refine j_goto (tgt := 5) dX4_goodsAt_31 (by decide) ?_
      rw [nI_1]
      rw [nI_eq (hvb i hi) (by omega)] at h18
      first
        | (rw [bst, if_neg (by simpa using h18)] at ih; exact ih)
        | (rw [bit_set _ (bst_256 _ (by omega)) _ (by omega)]; rw [bst, if_pos (by simpa using h18)] at ih; exact ih)
    · refine j_iload_n dX4_goodsAt_21 rfl rfl ?_
      refine j_iconst (v := 1) dX4_goodsAt_22 (by decide) ?_
      refine j_iload dX4_goodsAt_23 rfl ?_
      refine j_ishl dX4_goodsAt_25 ?_
      refine j_ior dX4_goodsAt_26 ?_
      refine j_istore_n (lv2 := [_, _, _, _, _]) dX4_goodsAt_27 rfl (by decide) rfl rfl ?_
      refine j_iinc1 (lv2 := [_, _, _, _, _]) dX4_goodsAt_28 rfl (by decide) rfl rfl ?_
      refine j_goto (tgt := 5) dX4_goodsAt_31 (by decide) ?_
      rw [nI_1]
      rw [nI_eq (hvb i hi) (by omega)] at h18
      first
        | (rw [bst, if_neg (by simpa using h18)] at ih; exact ih)
        | (rw [bit_set _ (bst_256 _ (by omega)) _ (by omega)]; rw [bst, if_pos (by simpa using h18)] at ih; exact ih)
end C4
