/-! arraycopy; the class: Present -/
theorem wdC_n : Cond.native arraycopyName ∈ wtbl := wt4 217 (by decide +kernel) (by decide +kernel)
theorem wdC_s : Cond.static arraycopyName ∈ wtbl := wt4 216 (by decide +kernel) (by decide +kernel)
def cpm (mi : MI) (a0 a sp dp n : Nat) : MI := fun x i => if x = a then va_cpy (mi a0) (mi a) sp dp n i else mi x i
theorem cpm_row (mi : MI) (a0 a sp dp n : Nat) : cpm mi a0 a sp dp n a = va_cpy (mi a0) (mi a) sp dp n := by funext i; simp [cpm]
theorem cpm_off (mi : MI) {a0 a sp dp n x : Nat} (h : x ≠ a) : cpm mi a0 a sp dp n x = mi x := by funext i; simp [cpm, h]
section CP
variable {cc : ByteArray} {nL : Nat} {own nm : String} {rt : Option FieldType} {d : Nat} {G : GG} {X : Cx} {post : PT} {bc bs : Nat} {mi : MI} {ml : ML} {mr : MR} {dom : List Nat} {pc : Nat} {lv : List (Option Value)} {st : List Value} {a a0 : Nat}
theorem j_copy {index : Nat} {sp dp n : Int32} (hlink : Cond.methodLink own index arraycopyName ∈ wtbl) (hk0 : kd a0 = 15) (hk : kd a = 15) (h1 : ¬ sp < 0) (h2 : ¬ dp < 0) (h3 : ¬ n < 0) (h4 : sp.toNatClampNeg + n.toNatClampNeg ≤ ln a0) (h5 : dp.toNatClampNeg + n.toNatClampNeg ≤ ln a) (hd : decode cc pc = .ok (.invokestatic index, 3)) (hdd : 1 ≤ d) (hst : (st.map fun v => v.category).sum ≤ 8) (kk : J cc nL own nm rt d G X post bc bs (cpm mi a0 a sp.toNatClampNeg dp.toNatClampNeg n.toNatClampNeg) ml mr dom (pc + 3) lv st) : J cc nL own nm rt d G X post bc bs mi ml mr dom pc lv (.int n :: .int dp :: .ref a :: .int sp :: .ref a0 :: st) := by
  obtain ⟨p, l, e, R, s, m, args, below, meth, c, ad0, dom0⟩ := X
  intro ok ad H locs cells slots ls hR hS hE hc2 hs hl hol hos
  have ha : a ∈ dom := in_dom hos.t.t (by omega)
  have ha0 : a0 ∈ dom := in_dom hos.t.t.t.t (by omega)
  obtain ⟨q, hq, hw⟩ := wl_get (G := G) (ad := ad) (mi := mi) (ml := ml) (mr := mr) ha
  obtain ⟨q2, hq2, hw2⟩ := wl_get (G := G) (ad := ad) (mi := mi) (ml := ml) (mr := mr) ha0
  rw [cel_int hk (by omega) (by omega)] at hw
  rw [cel_int hk0 (by omega) (by omega)] at hw2
  have hnf : nativeFrameWords "java/lang/System" "arraycopy" 5 ≤ 40 := by decide
  refine va_copyi ok.1 ok.2.1 (ok.2.2.1.trans hl.1.symm) ok.2.2.2.1 (ok.2.2.2.2.1 _ hlink) (ok.2.2.2.2.1 _ wdC_n) (ok.2.2.2.2.1 _ wdC_s) (ok.2.2.2.2.1 _ wd127) ok.2.2.2.2.2.1.1 hR.1 hR.2.1 hS q2 q 1 1 hw2 hw rfl rfl rfl h1 h2 h3 h4 h5 (fun i _ => rfl) (by rw [ok.2.2.2.2.2.2.2.2.2.1]; exact hdd) ?_ hd (fun H1 locs1 hP1 hD1 hS1 => ?_)
  · rw [ok.2.2.2.2.2.2.2.2.2.2, rn_cats]; omega
  · rw [wl_set (mi2 := cpm mi a0 a sp.toNatClampNeg dp.toNatClampNeg n.toNatClampNeg) hR.2.1 hq (by rw [cel_int hk (by omega) (by omega), cpm_row]) (fun n hn => cel_congr (cpm_off _ hn) rfl rfl)] at hP1 hD1
    exact kk ok ad H1 locs1 cells slots ls ⟨hP1, hD1, hR.2.2⟩ hS1 hE hc2 hs hl hol hos.t.t.t.t.t
theorem wdC0_115 : Cond.methodLink RX0 115 arraycopyName ∈ wtbl := wt4 215 (by decide +kernel) (by decide +kernel)
theorem wdC4_64 : Cond.methodLink RX4 64 arraycopyName ∈ wtbl := wt5 142 (by decide +kernel) (by decide +kernel)
end CP
section C4
variable {G : GG} {post : PT} {mi : MI} {ml : ML} {mr : MR} {dom : List Nat} {T : Nat} {t : TW}
theorem tX4_placeOf {p : Int32} (hX : XR mr) (hi : vp_in p 13) (hp : post (some (.int (mi 9 (Int32.toNatClampNeg p)))) mi ml mr dom) : CT G 1 0 0 yX4_placeOf cX4_placeOf 2 (some .int) [.ref 8, .int p] mi ml mr dom post := by
  refine enter 0 (by decide) rfl rfl (fun X => ?_)
  refine j_aload_n dX4_placeOf_0 rfl rfl ?_
  refine gR4_18 rfl dX4_placeOf_1 (x_cells hX) ?_
  refine j_iload_n dX4_placeOf_4 rfl rfl ?_
  refine j_iald rfl hi dX4_placeOf_5 ?_
  refine j_iret rfl dX4_placeOf_6 ?_
  exact hp
theorem tX4_placeOfGood {g : Int32} (hX : XR mr) (hi : vp_in (6 + g) 13) (hp : post (some (.int (mi 9 (Int32.toNatClampNeg (6 + g))))) mi ml mr dom) : CT G 1 0 0 yX4_placeOfGood cX4_placeOfGood 2 (some .int) [.ref 8, .int g] mi ml mr dom post := by
  refine enter 0 (by decide) rfl rfl (fun X => ?_)
  refine j_aload_n dX4_placeOfGood_0 rfl rfl ?_
  refine gR4_18 rfl dX4_placeOfGood_1 (x_cells hX) ?_
  refine j_bipush (v := 6) dX4_placeOfGood_4 (by decide) ?_
  refine j_iload_n dX4_placeOfGood_6 rfl rfl ?_
  refine j_iadd dX4_placeOfGood_7 ?_
  refine j_iald rfl hi dX4_placeOfGood_8 ?_
  refine j_iret rfl dX4_placeOfGood_9 ?_
  exact hp
theorem tX4_hour  (hX : XR mr) (hp : post (some (.int (mi 9 (Int32.toNatClampNeg 11)))) mi ml mr dom) : CT G 1 0 0 yX4_hour cX4_hour 1 (some .int) [.ref 8] mi ml mr dom post := by
  refine enter 0 (by decide) rfl rfl (fun X => ?_)
  refine j_aload_n dX4_hour_0 rfl rfl ?_
  refine gR4_18 rfl dX4_hour_1 (x_cells hX) ?_
  refine j_bipush (v := 11) dX4_hour_4 (by decide) ?_
  refine j_iald rfl (vp_in_nI (n := 11) (by decide) (by decide)) dX4_hour_6 ?_
  refine j_iret rfl dX4_hour_7 ?_
  exact hp
theorem tX4_dayNumber  (hX : XR mr) (hp : post (some (.int (mi 9 (Int32.toNatClampNeg 12)))) mi ml mr dom) : CT G 1 0 0 yX4_dayNumber cX4_dayNumber 1 (some .int) [.ref 8] mi ml mr dom post := by
  refine enter 0 (by decide) rfl rfl (fun X => ?_)
  refine j_aload_n dX4_dayNumber_0 rfl rfl ?_
  refine gR4_18 rfl dX4_dayNumber_1 (x_cells hX) ?_
  refine j_bipush (v := 12) dX4_dayNumber_4 (by decide) ?_
  refine j_iald rfl (vp_in_nI (n := 12) (by decide) (by decide)) dX4_dayNumber_6 ?_
  refine j_iret rfl dX4_dayNumber_7 ?_
  exact hp
theorem tX4_movePerson {p : Int32} {h : Int32} (hX : XR mr) (hi : vp_in p 13) (hp : post none (up mi 9 (Int32.toNatClampNeg p) h) ml mr dom) : CT G 1 0 0 yX4_movePerson cX4_movePerson 3 none [.ref 8, .int p, .int h] mi ml mr dom post := by
  refine enter 0 (by decide) rfl rfl (fun X => ?_)
  refine j_aload_n dX4_movePerson_0 rfl rfl ?_
  refine gR4_18 rfl dX4_movePerson_1 (x_cells hX) ?_
  refine j_iload_n dX4_movePerson_4 rfl rfl ?_
  refine j_iload_n dX4_movePerson_5 rfl rfl ?_
  refine j_iast rfl hi dX4_movePerson_6 ?_
  refine j_vret rfl dX4_movePerson_7 ?_
  exact hp
theorem tX4_moveGood {g : Int32} {h : Int32} (hX : XR mr) (hi : vp_in (6 + g) 13) (hp : post none (up mi 9 (Int32.toNatClampNeg (6 + g)) h) ml mr dom) : CT G 1 0 0 yX4_moveGood cX4_moveGood 3 none [.ref 8, .int g, .int h] mi ml mr dom post := by
  refine enter 0 (by decide) rfl rfl (fun X => ?_)
  refine j_aload_n dX4_moveGood_0 rfl rfl ?_
  refine gR4_18 rfl dX4_moveGood_1 (x_cells hX) ?_
  refine j_bipush (v := 6) dX4_moveGood_4 (by decide) ?_
  refine j_iload_n dX4_moveGood_6 rfl rfl ?_
  refine j_iadd dX4_moveGood_7 ?_
  refine j_iload_n dX4_moveGood_8 rfl rfl ?_
  refine j_iast rfl hi dX4_moveGood_9 ?_
  refine j_vret rfl dX4_moveGood_10 ?_
  exact hp
theorem tX4_passHours {n : Int32} (hX : XR mr) (hp : post none (up (up mi 9 (Int32.toNatClampNeg 12) ((mi 9 (Int32.toNatClampNeg 12)) + (((mi 9 (Int32.toNatClampNeg 11)) + n) / 24))) 9 (Int32.toNatClampNeg 11) (((mi 9 (Int32.toNatClampNeg 11)) + n) - ((mi 9 (Int32.toNatClampNeg 11)) + n) / 24 * 24)) ml mr dom) : CT G 1 0 0 yX4_passHours cX4_passHours 3 none [.ref 8, .int n] mi ml mr dom post := by
  refine enter 1 (by decide) rfl rfl (fun X => ?_)
  refine j_aload_n dX4_passHours_0 rfl rfl ?_
  refine gR4_18 rfl dX4_passHours_1 (x_cells hX) ?_
  refine j_bipush (v := 11) dX4_passHours_4 (by decide) ?_
  refine j_iald rfl (vp_in_nI (n := 11) (by decide) (by decide)) dX4_passHours_6 ?_
  refine j_iload_n dX4_passHours_7 rfl rfl ?_
  refine j_iadd dX4_passHours_8 ?_
  refine j_istore_n (lv2 := [_, _, _]) dX4_passHours_9 rfl (by decide) rfl rfl ?_
  refine j_aload_n dX4_passHours_10 rfl rfl ?_
  refine gR4_18 rfl dX4_passHours_11 (x_cells hX) ?_
  refine j_bipush (v := 12) dX4_passHours_14 (by decide) ?_
  refine j_dup2 dX4_passHours_16 rfl rfl ?_
  refine j_iald rfl (vp_in_nI (n := 12) (by decide) (by decide)) dX4_passHours_17 ?_
  refine j_iload_n dX4_passHours_18 rfl rfl ?_
  refine j_bipush (v := 24) dX4_passHours_19 (by decide) ?_
  refine j_idiv dX4_passHours_21 (by decide) ?_
  refine j_iadd dX4_passHours_22 ?_
  refine j_iast rfl (vp_in_nI (n := 12) (by decide) (by decide)) dX4_passHours_23 ?_
  refine j_aload_n dX4_passHours_24 rfl rfl ?_
  refine gR4_18 rfl dX4_passHours_25 (x_cells hX) ?_
  refine j_bipush (v := 11) dX4_passHours_28 (by decide) ?_
  refine j_iload_n dX4_passHours_30 rfl rfl ?_
  refine j_bipush (v := 24) dX4_passHours_31 (by decide) ?_
  refine j_irem dX4_passHours_33 (by decide) ?_
  refine j_iast rfl (vp_in_nI (n := 11) (by decide) (by decide)) dX4_passHours_34 ?_
  refine j_vret rfl dX4_passHours_35 ?_
  exact hp
end C4
