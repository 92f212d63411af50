/-! the law: shop, led, its loop -/
section LAW2
variable {cc : ByteArray} {nL d : Nat} {own nm : String} {rt : Option FieldType} {G : GG} {X : Cx} {post : PT} {bc bs : Nat} {mi : MI} {ml : ML} {mr : MR} {dom : List Nat} {pc : Nat} {lv : List (Option Value)} {st : List Value} {a b c : Nat} {L : Nat} {xs : Nat → Int32}
theorem mx_thrown (hp : post (some (.int (mi 1000 0))) mi ml mr dom) : CT G 1 0 0 yX13_thrown cX13_thrown 1 (some .int) [.ref 1000] mi ml mr dom post := by
  refine enter 0 (by decide) rfl rfl (fun X => ?_)
  refine j_aload_n dX13_thrown_0 rfl rfl ?_
  refine gI13_51 rfl dX13_thrown_1 ?_
  refine j_iret rfl dX13_thrown_4 ?_
  exact hp
theorem led_u {t : TW} {v : Nat → Nat} {x : Int32} {g g' : Nat} (h5 : t 0 6 ≤ 5) (hg : g < t 0 6) (hg' : g' < t 0 6) (h : LED t v x g) (h' : LED t v x g') : g' = g := by
  have e := h.2.trans h'.2.symm
  have l1 := cnt_le (fun j => !mgo t v j) g
  have l2 := cnt_le (fun j => !mgo t v j) g'
  rw [nI_eq (by omega) (by omega)] at e
  rcases Nat.lt_trichotomy g g' with q | q | q
  · have := cnt_lt2 (P := fun j => !mgo t v j) g' g q (show (!mgo t v g) = true by rw [h.1]; rfl)
    omega
  · exact q.symm
  · have := cnt_lt2 (P := fun j => !mgo t v j) g g' q (show (!mgo t v g') = true by rw [h'.1]; rfl)
    omega
theorem la_36 (hx : SCX X G L xs) (hi : 6 * c + 6 ≤ L) (hL : L ≤ 3072) (h15 : 15 ≤ d) (hc : c < 99999) (hZ : LAZ c mi ml mr dom) (hs : ∀ mi2 ml2 mr2 dom2, LAZ (c + 1) mi2 ml2 mr2 dom2 → J cL_law 7 RL nm rt d G X post bc bs mi2 ml2 mr2 dom2 1685 [some (.ref 598), some (.ref 0), some (.ref 1000), some (.ref 601), some (.int (nI (6 * c))), none, none] []) : J cL_law 7 RL nm rt d G X post bc bs mi ml mr dom 1276 [some (.ref 598), some (.ref 0), some (.ref 1000), some (.ref 601), some (.int (nI (6 * c))), none, none] [] := by
  refine j_aload_n dL_law_1276 rfl rfl ?_
  refine j_aload_n dL_law_1277 rfl rfl ?_
  refine j_iload dL_law_1278 rfl ?_
  refine j_iconst (v := 1) dL_law_1280 (by decide) ?_
  refine j_iadd dL_law_1281 ?_
  refine j_sld hx (idx (k := 1) hi hL (by decide)) dL_law_1282 ?_
  refine j_aload_n dL_law_1283 rfl rfl ?_
  refine j_iload dL_law_1284 rfl ?_
  refine j_iconst (v := 2) dL_law_1286 (by decide) ?_
  refine j_iadd dL_law_1287 ?_
  refine j_sld hx (idx (k := 2) hi hL (by decide)) dL_law_1288 ?_
  refine j_aload_n dL_law_1289 rfl rfl ?_
  refine j_iload dL_law_1290 rfl ?_
  refine j_iconst (v := 3) dL_law_1292 (by decide) ?_
  refine j_iadd dL_law_1293 ?_
  refine j_sld hx (idx (k := 3) hi hL (by decide)) dL_law_1294 ?_
  refine j_if_eq (tgt := 1302) dL_law_1295 (by decide) (fun h0 => ?_) (fun h0 => ?_)
  · refine j_iconst (v := 0) dL_law_1302 (by decide) ?_
    refine eVL_167 rfl dL_law_1303 h15 (Nat.le_of_ble_eq_true rfl) (du_shop (Or.inl rfl) hc hZ _ (fun x mi1 ml1 mr1 dom1 dm => ?_))
    refine j_aload_n dL_law_1306 rfl rfl ?_
    refine j_aload_n dL_law_1307 rfl rfl ?_
    refine j_iload dL_law_1308 rfl ?_
    refine j_iconst (v := 1) dL_law_1310 (by decide) ?_
    refine j_iadd dL_law_1311 ?_
    refine j_sld hx (idx (k := 1) hi hL (by decide)) dL_law_1312 ?_
    refine j_aload_n dL_law_1313 rfl rfl ?_
    refine j_iload dL_law_1314 rfl ?_
    refine j_iconst (v := 2) dL_law_1316 (by decide) ?_
    refine j_iadd dL_law_1317 ?_
    refine j_sld hx (idx (k := 2) hi hL (by decide)) dL_law_1318 ?_
    refine j_aload_n dL_law_1319 rfl rfl ?_
    refine j_iload dL_law_1320 rfl ?_
    refine j_iconst (v := 3) dL_law_1322 (by decide) ?_
    refine j_iadd dL_law_1323 ?_
    refine j_sld hx (idx (k := 3) hi hL (by decide)) dL_law_1324 ?_
    refine j_if_eq (tgt := 1332) dL_law_1325 (by decide) (fun _ => ?_) (fun h => absurd h0 h)
    refine j_iconst (v := 0) dL_law_1332 (by decide) ?_
    refine eVL_171 rfl dL_law_1333 h15 (Nat.le_of_ble_eq_true rfl) (dm _ (fun mi2 ml2 mr2 dom2 hZ2 => ?_))
    exact j_icmp_eq (tgt := 1685) dL_law_1336 (by decide) (fun _ => hs _ _ _ _ hZ2) (fun h => absurd rfl h)
  · refine j_iconst (v := 1) dL_law_1298 (by decide) ?_
    refine j_goto (tgt := 1303) dL_law_1299 (by decide) ?_
    refine eVL_167 rfl dL_law_1303 h15 (Nat.le_of_ble_eq_true rfl) (du_shop (Or.inr rfl) hc hZ _ (fun x mi1 ml1 mr1 dom1 dm => ?_))
    refine j_aload_n dL_law_1306 rfl rfl ?_
    refine j_aload_n dL_law_1307 rfl rfl ?_
    refine j_iload dL_law_1308 rfl ?_
    refine j_iconst (v := 1) dL_law_1310 (by decide) ?_
    refine j_iadd dL_law_1311 ?_
    refine j_sld hx (idx (k := 1) hi hL (by decide)) dL_law_1312 ?_
    refine j_aload_n dL_law_1313 rfl rfl ?_
    refine j_iload dL_law_1314 rfl ?_
    refine j_iconst (v := 2) dL_law_1316 (by decide) ?_
    refine j_iadd dL_law_1317 ?_
    refine j_sld hx (idx (k := 2) hi hL (by decide)) dL_law_1318 ?_
    refine j_aload_n dL_law_1319 rfl rfl ?_
    refine j_iload dL_law_1320 rfl ?_
    refine j_iconst (v := 3) dL_law_1322 (by decide) ?_
    refine j_iadd dL_law_1323 ?_
    refine j_sld hx (idx (k := 3) hi hL (by decide)) dL_law_1324 ?_
    refine j_if_eq (tgt := 1332) dL_law_1325 (by decide) (fun h => absurd h h0) (fun _ => ?_)
    refine j_iconst (v := 1) dL_law_1328 (by decide) ?_
    refine j_goto (tgt := 1333) dL_law_1329 (by decide) ?_
    refine eVL_171 rfl dL_law_1333 h15 (Nat.le_of_ble_eq_true rfl) (dm _ (fun mi2 ml2 mr2 dom2 hZ2 => ?_))
    exact j_icmp_eq (tgt := 1685) dL_law_1336 (by decide) (fun _ => hs _ _ _ _ hZ2) (fun h => absurd rfl h)
theorem la_47 (hx : SCX X G L xs) (hi : 6 * c + 6 ≤ L) (hL : L ≤ 3072) (h15 : 15 ≤ d) (hc : c < 99999) (hZ : LAZ c mi ml mr dom) (hbc : 20 ≤ bc) (hbs : 260 ≤ bs) (hGW : GW G) (hxl : match X with | (_, l, _, _, _, _, _, _, _, _, _, _) => l.stackTraces = false) (hs : ∀ mi2 ml2 mr2 dom2, LAZ (c + 1) mi2 ml2 mr2 dom2 → J cL_law 7 RL nm rt d G X post (bc - 20) (bs - 260) mi2 ml2 mr2 dom2 1685 [some (.ref 598), some (.ref 0), some (.ref 1000), some (.ref 601), some (.int (nI (6 * c))), none, none] []) : J cL_law 7 RL nm rt d G X post bc bs mi ml mr dom 1591 [some (.ref 598), some (.ref 0), some (.ref 1000), some (.ref 601), some (.int (nI (6 * c))), none, none] [] := by
  obtain ⟨T, T', t, Z⟩ := hZ
  have hX := Z.1.1
  have hT := Z.1.2.2.1.1
  have hTn := Z.1.2.2.1.2.2.2.1
  have hW := Z.1.2.2.2.1
  have hR := Z.1.2.2.2.2.1
  refine j_aload_n dL_law_1591 rfl rfl ?_
  refine j_aload_n dL_law_1592 rfl rfl ?_
  refine j_iload dL_law_1593 rfl ?_
  refine j_iconst (v := 1) dL_law_1595 (by decide) ?_
  refine j_iadd dL_law_1596 ?_
  refine j_sld hx (idx (k := 1) hi hL (by decide)) dL_law_1597 ?_
  refine j_aload_n dL_law_1598 rfl rfl ?_
  rcases zcase Z with ⟨rfl, U⟩ | ⟨M, v, C⟩
  · refine j_callSW hxl dL_law_1599 (by omega) (by omega) (by omega) (Nat.le_of_ble_eq_true rfl) (lL_no (v := fun _ => 0) hGW hX hT hTn hW hR (fun g hg => absurd hg (Nat.not_lt_zero _)) (fun g hg => absurd hg (Nat.not_lt_zero _)) ?_)
    refine j_istore (lv2 := [some (.ref 598), some (.ref 0), some (.ref 1000), some (.ref 601), some (.int (nI (6 * c))), some (.int 1), none]) dL_law_1602 (by decide) rfl rfl ?_
    refine j_aload_n dL_law_1604 rfl rfl ?_
    refine j_aload_n dL_law_1605 rfl rfl ?_
    refine j_iload dL_law_1606 rfl ?_
    refine j_iconst (v := 1) dL_law_1608 (by decide) ?_
    refine j_iadd dL_law_1609 ?_
    refine j_sld hx (idx (k := 1) hi hL (by decide)) dL_law_1610 ?_
    refine cVL_220 (d1 := 2) rfl dL_law_1611 (by omega) (Nat.le_of_ble_eq_true rfl) (mx_ledN U.TM ?_)
    refine j_istore (lv2 := [some (.ref 598), some (.ref 0), some (.ref 1000), some (.ref 601), some (.int (nI (6 * c))), some (.int 1), some (.int 0)]) dL_law_1614 (by decide) rfl rfl ?_
    refine j_aload_n dL_law_1616 rfl rfl ?_
    refine cVL_221 (d1 := 1) rfl dL_law_1617 (by omega) (Nat.le_of_ble_eq_true rfl) (mx_thrown ?_)
    refine j_iload dL_law_1620 rfl ?_
    refine j_icmp_eq (tgt := 1627) dL_law_1622 (by decide) (fun _ => ?_) (fun h => absurd (up_at _ _ _ _) h)
    refine j_iload dL_law_1627 rfl ?_
    refine j_if_ne (tgt := 1644) dL_law_1629 (by decide) (fun _ => ?_) (fun h => absurd h (by decide))
    refine j_goto (tgt := 1685) dL_law_1644 (by decide) ?_
    refine j_forget ?_
    refine j_less (bc2 := bc - 20) (bs2 := bs - 260) (by omega) (by omega) ?_
    exact hs _ _ _ _ ⟨T, T', _, zsame Z (fun a ha => by simp only [up_off _ _ ha]) (fun j hj => by simp only [up_ne _ _ hj]) rfl⟩
  · have w := C.W.1
    by_cases hex : ∃ g, g < t 0 6 ∧ LED t v (xs (nI (6 * c) + 1).toNatClampNeg) g
    · obtain ⟨g, hg, hl⟩ := hex
      refine j_callSW hxl dL_law_1599 (by omega) (by omega) (by omega) (Nat.le_of_ble_eq_true rfl) (lL_ok hX hT hTn hW hR C.gp hg hl ?_)
      refine j_istore (lv2 := [some (.ref 598), some (.ref 0), some (.ref 1000), some (.ref 601), some (.int (nI (6 * c))), some (.int 0), none]) dL_law_1602 (by decide) rfl rfl ?_
      refine j_aload_n dL_law_1604 rfl rfl ?_
      refine j_aload_n dL_law_1605 rfl rfl ?_
      refine j_iload dL_law_1606 rfl ?_
      refine j_iconst (v := 1) dL_law_1608 (by decide) ?_
      refine j_iadd dL_law_1609 ?_
      refine j_sld hx (idx (k := 1) hi hL (by decide)) dL_law_1610 ?_
      refine cVL_220 (d1 := 2) rfl dL_law_1611 (by omega) (Nat.le_of_ble_eq_true rfl) (mx_led C.xm C.mm C.xt C.TM C.G C.W C.r (C.S.vm hc) (fun g' hg' hl' => ?_) (fun hn => absurd hl (hn g hg)))
      have eg := led_u (by omega) hg hg' hl hl'
      subst eg
      refine j_istore (lv2 := [some (.ref 598), some (.ref 0), some (.ref 1000), some (.ref 601), some (.int (nI (6 * c))), some (.int 0), some (.int (nI g'))]) dL_law_1614 (by decide) rfl rfl ?_
      refine j_aload_n dL_law_1616 rfl rfl ?_
      refine cVL_221 (d1 := 1) rfl dL_law_1617 (by omega) (Nat.le_of_ble_eq_true rfl) (mx_thrown ?_)
      refine j_iload dL_law_1620 rfl ?_
      refine j_icmp_eq (tgt := 1627) dL_law_1622 (by decide) (fun _ => ?_) (fun h => absurd (up_at _ _ _ _) h)
      refine j_iload dL_law_1627 rfl ?_
      refine j_if_ne (tgt := 1644) dL_law_1629 (by decide) (fun h => absurd rfl h) (fun _ => ?_)
      refine j_aload_n dL_law_1632 rfl rfl ?_
      refine j_iconst (v := 0) dL_law_1633 (by decide) ?_
      refine j_lald rfl (inT (n := 0) (N := 1) rfl (by decide) (by decide)) dL_law_1634 ?_
      refine j_iload dL_law_1635 rfl ?_
      refine j_i2l dL_law_1637 ?_
      refine j_lcmp dL_law_1638 ?_
      have e0 : (upl ml 601 0 (nI g').toInt64) 601 (0 : Int32).toNatClampNeg = (nI g').toInt64 := upl_at _ _ _ _
      rw [e0]
      refine j_if_eq (tgt := 1644) dL_law_1639 (by decide) (fun _ => ?_) (fun h => absurd (by simp [lg_cmp]) h)
      refine j_goto (tgt := 1685) dL_law_1644 (by decide) ?_
      refine j_forget ?_
      refine j_less (bc2 := bc - 20) (bs2 := bs - 260) (by omega) (by omega) ?_
      exact hs _ _ _ _ ⟨T, T', _, zsame Z (fun a ha => by simp only [up_off _ _ ha]) (fun j hj => by simp only [up_ne _ _ hj]) (by funext i; simp [upl])⟩
    · refine j_callSW hxl dL_law_1599 (by omega) (by omega) (by omega) (Nat.le_of_ble_eq_true rfl) (lL_no hGW hX hT hTn hW hR C.gp (fun g hg hl => hex ⟨g, hg, hl⟩) ?_)
      refine j_istore (lv2 := [some (.ref 598), some (.ref 0), some (.ref 1000), some (.ref 601), some (.int (nI (6 * c))), some (.int 1), none]) dL_law_1602 (by decide) rfl rfl ?_
      refine j_aload_n dL_law_1604 rfl rfl ?_
      refine j_aload_n dL_law_1605 rfl rfl ?_
      refine j_iload dL_law_1606 rfl ?_
      refine j_iconst (v := 1) dL_law_1608 (by decide) ?_
      refine j_iadd dL_law_1609 ?_
      refine j_sld hx (idx (k := 1) hi hL (by decide)) dL_law_1610 ?_
      refine cVL_220 (d1 := 2) rfl dL_law_1611 (by omega) (Nat.le_of_ble_eq_true rfl) (mx_led C.xm C.mm C.xt C.TM C.G C.W C.r (C.S.vm hc) (fun g' hg' hl' => absurd ⟨g', hg', hl'⟩ hex) (fun hn => ?_))
      refine j_istore (lv2 := [some (.ref 598), some (.ref 0), some (.ref 1000), some (.ref 601), some (.int (nI (6 * c))), some (.int 1), some (.int 0)]) dL_law_1614 (by decide) rfl rfl ?_
      refine j_aload_n dL_law_1616 rfl rfl ?_
      refine cVL_221 (d1 := 1) rfl dL_law_1617 (by omega) (Nat.le_of_ble_eq_true rfl) (mx_thrown ?_)
      refine j_iload dL_law_1620 rfl ?_
      refine j_icmp_eq (tgt := 1627) dL_law_1622 (by decide) (fun _ => ?_) (fun h => absurd (up_at _ _ _ _) h)
      refine j_iload dL_law_1627 rfl ?_
      refine j_if_ne (tgt := 1644) dL_law_1629 (by decide) (fun _ => ?_) (fun h => absurd h (by decide))
      refine j_goto (tgt := 1685) dL_law_1644 (by decide) ?_
      refine j_forget ?_
      refine j_less (bc2 := bc - 20) (bs2 := bs - 260) (by omega) (by omega) ?_
      exact hs _ _ _ _ ⟨T, T', _, zsame Z (fun a ha => by simp only [up_off _ _ ha]) (fun j hj => by simp only [up_ne _ _ hj]) rfl⟩
theorem and63 (x : Int32) : ∃ k, k < 64 ∧ x &&& 63 = nI k := by
  refine ⟨x.toBitVec.toNat % 64, Nat.mod_lt _ (by decide), ?_⟩
  apply Int32.toBitVec_inj.mp
  apply BitVec.eq_of_toNat_eq
  rw [Int32.toBitVec_and, BitVec.toNat_and]
  show x.toBitVec.toNat &&& (2 ^ 6 - 1) = (Int32.ofNat (x.toBitVec.toNat % 64)).toBitVec.toNat
  rw [Nat.and_two_pow_sub_one_eq_mod, Int32.toBitVec_ofNat', BitVec.toNat_ofNat]
  omega
theorem gt_le (hL : L ≤ 3072) (hc : c ≤ 600) : nI L - 6 < nI (6 * c) ↔ ¬ 6 * c + 6 ≤ L := by
  rw [Int32.lt_iff_toInt_lt, show (6 : Int32) = nI 6 from rfl, pk_sub_toInt (by omega) (by omega), nI_toInt (by omega)]
  omega
theorem la_body (hx : SCX X G L xs) (hi : 6 * c + 6 ≤ L) (hL : L ≤ 3072) (h15 : 15 ≤ d) (hc : c < 99999) (hZ : LAZ c mi ml mr dom) (hbc : 20 ≤ bc) (hbs : 260 ≤ bs) (hGW : GW G) (hxl : match X with | (_, l, _, _, _, _, _, _, _, _, _, _) => l.stackTraces = false) (hs : ∀ mi2 ml2 mr2 dom2, LAZ (c + 1) mi2 ml2 mr2 dom2 → J cL_law 7 RL nm rt d G X post (bc - 20) (bs - 260) mi2 ml2 mr2 dom2 1685 [some (.ref 598), some (.ref 0), some (.ref 1000), some (.ref 601), some (.int (nI (6 * c))), none, none] []) : J cL_law 7 RL nm rt d G X post bc bs mi ml mr dom 33 [some (.ref 598), some (.ref 0), some (.ref 1000), some (.ref 601), some (.int (nI (6 * c))), none, none] [] := by
  have hs' : ∀ mi2 ml2 mr2 dom2, LAZ (c + 1) mi2 ml2 mr2 dom2 → J cL_law 7 RL nm rt d G X post bc bs mi2 ml2 mr2 dom2 1685 [some (.ref 598), some (.ref 0), some (.ref 1000), some (.ref 601), some (.int (nI (6 * c))), none, none] [] := fun a b c d h => j_less (by omega) (by omega) (hs a b c d h)
  refine j_aload_n dL_law_33 rfl rfl ?_
  refine j_iload dL_law_34 rfl ?_
  refine j_sld hx (vp_in_nI (by omega) (by omega)) dL_law_36 ?_
  refine j_bipush (v := 63) dL_law_37 (by decide) ?_
  refine j_iand dL_law_39 ?_
  obtain ⟨k, hk, ek⟩ := and63 (xs (nI (6 * c)).toNatClampNeg)
  rw [ek]
  by_cases h50 : k < 50
  · have q9 : k = 0 ∨ k = 1 ∨ k = 2 ∨ k = 3 ∨ k = 4 ∨ k = 5 ∨ k = 6 ∨ k = 7 ∨ k = 8 ∨ k = 9 ∨ k = 10 ∨ k = 11 ∨ k = 12 ∨ k = 13 ∨ k = 14 ∨ k = 15 ∨ k = 16 ∨ k = 17 ∨ k = 18 ∨ k = 19 ∨ k = 20 ∨ k = 21 ∨ k = 22 ∨ k = 23 ∨ k = 24 ∨ k = 25 ∨ k = 26 ∨ k = 27 ∨ k = 28 ∨ k = 29 ∨ k = 30 ∨ k = 31 ∨ k = 32 ∨ k = 33 ∨ k = 34 ∨ k = 35 ∨ k = 36 ∨ k = 37 ∨ k = 38 ∨ k = 39 ∨ k = 40 ∨ k = 41 ∨ k = 42 ∨ k = 43 ∨ k = 44 ∨ k = 45 ∨ k = 46 ∨ k = 47 ∨ k = 48 ∨ k = 49 := by omega
    rcases q9 with rfl | rfl | rfl | rfl | rfl | rfl | rfl | rfl | rfl | rfl | rfl | rfl | rfl | rfl | rfl | rfl | rfl | rfl | rfl | rfl | rfl | rfl | rfl | rfl | rfl | rfl | rfl | rfl | rfl | rfl | rfl | rfl | rfl | rfl | rfl | rfl | rfl | rfl | rfl | rfl | rfl | rfl | rfl | rfl | rfl | rfl | rfl | rfl | rfl | rfl
    · exact j_tableIn (x := nI 0) (tgt := 256) dL_law_40 (by decide) (by decide) rfl (by decide) (la_0 hx hi hL h15 hc hZ hs')
    · exact j_tableIn (x := nI 1) (tgt := 329) dL_law_40 (by decide) (by decide) rfl (by decide) (la_1 hx hi hL h15 hc hZ hbc hbs hs)
    · exact j_tableIn (x := nI 2) (tgt := 354) dL_law_40 (by decide) (by decide) rfl (by decide) (la_2 hx hi hL h15 hc hZ hs')
    · exact j_tableIn (x := nI 3) (tgt := 367) dL_law_40 (by decide) (by decide) rfl (by decide) (la_3 hx hi hL h15 hc hZ hs')
    · exact j_tableIn (x := nI 4) (tgt := 380) dL_law_40 (by decide) (by decide) rfl (by decide) (la_4 hx hi hL h15 hc hZ hs')
    · exact j_tableIn (x := nI 5) (tgt := 417) dL_law_40 (by decide) (by decide) rfl (by decide) (la_5 hx hi hL h15 hc hZ hs')
    · exact j_tableIn (x := nI 6) (tgt := 454) dL_law_40 (by decide) (by decide) rfl (by decide) (la_6 hx hi hL h15 hc hZ hs')
    · exact j_tableIn (x := nI 7) (tgt := 491) dL_law_40 (by decide) (by decide) rfl (by decide) (la_7 hx hi hL h15 hc hZ hs')
    · exact j_tableIn (x := nI 8) (tgt := 528) dL_law_40 (by decide) (by decide) rfl (by decide) (la_8 hx hi hL h15 hc hZ hs')
    · exact j_tableIn (x := nI 9) (tgt := 553) dL_law_40 (by decide) (by decide) rfl (by decide) (la_9 hx hi hL h15 hc hZ hs')
    · exact j_tableIn (x := nI 10) (tgt := 602) dL_law_40 (by decide) (by decide) rfl (by decide) (la_10 hx hi hL h15 hc hZ hs')
    · exact j_tableIn (x := nI 11) (tgt := 651) dL_law_40 (by decide) (by decide) rfl (by decide) (la_11 hx hi hL h15 hc hZ hs')
    · exact j_tableIn (x := nI 12) (tgt := 688) dL_law_40 (by decide) (by decide) rfl (by decide) (la_12 hx hi hL h15 hc hZ hs')
    · exact j_tableIn (x := nI 13) (tgt := 713) dL_law_40 (by decide) (by decide) rfl (by decide) (la_13 hx hi hL h15 hc hZ hs')
    · exact j_tableIn (x := nI 14) (tgt := 762) dL_law_40 (by decide) (by decide) rfl (by decide) (la_14 hx hi hL h15 hc hZ hs')
    · exact j_tableIn (x := nI 15) (tgt := 799) dL_law_40 (by decide) (by decide) rfl (by decide) (la_15 hx hi hL h15 hc hZ hs')
    · exact j_tableIn (x := nI 16) (tgt := 824) dL_law_40 (by decide) (by decide) rfl (by decide) (la_16 hx hi hL h15 hc hZ hs')
    · exact j_tableIn (x := nI 17) (tgt := 849) dL_law_40 (by decide) (by decide) rfl (by decide) (la_17 hx hi hL h15 hc hZ hs')
    · exact j_tableIn (x := nI 18) (tgt := 874) dL_law_40 (by decide) (by decide) rfl (by decide) (la_18 hx hi hL h15 hc hZ hs')
    · exact j_tableIn (x := nI 19) (tgt := 887) dL_law_40 (by decide) (by decide) rfl (by decide) (la_19 hx hi hL h15 hc hZ hs')
    · exact j_tableIn (x := nI 20) (tgt := 924) dL_law_40 (by decide) (by decide) rfl (by decide) (la_20 hx hi hL h15 hc hZ hs')
    · exact j_tableIn (x := nI 21) (tgt := 937) dL_law_40 (by decide) (by decide) rfl (by decide) (la_21 hx hi hL h15 hc hZ hs')
    · exact j_tableIn (x := nI 22) (tgt := 962) dL_law_40 (by decide) (by decide) rfl (by decide) (la_22 hx hi hL h15 hc hZ hs')
    · exact j_tableIn (x := nI 23) (tgt := 975) dL_law_40 (by decide) (by decide) rfl (by decide) (la_23 hx hi hL h15 hc hZ hs')
    · exact j_tableIn (x := nI 24) (tgt := 1012) dL_law_40 (by decide) (by decide) rfl (by decide) (la_24 hx hi hL h15 hc hZ hs')
    · exact j_tableIn (x := nI 25) (tgt := 1061) dL_law_40 (by decide) (by decide) rfl (by decide) (la_25 hx hi hL h15 hc hZ hs')
    · exact j_tableIn (x := nI 26) (tgt := 1074) dL_law_40 (by decide) (by decide) rfl (by decide) (la_26 hx hi hL h15 hc hZ hs')
    · exact j_tableIn (x := nI 27) (tgt := 1099) dL_law_40 (by decide) (by decide) rfl (by decide) (la_27 hx hi hL h15 hc hZ hs')
    · exact j_tableIn (x := nI 28) (tgt := 1124) dL_law_40 (by decide) (by decide) rfl (by decide) (la_28 hx hi hL h15 hc hZ hs')
    · exact j_tableIn (x := nI 29) (tgt := 1137) dL_law_40 (by decide) (by decide) rfl (by decide) (la_29 hx hi hL h15 hc hZ hs')
    · exact j_tableIn (x := nI 30) (tgt := 1162) dL_law_40 (by decide) (by decide) rfl (by decide) (la_30 hx hi hL h15 hc hZ hs')
    · exact j_tableIn (x := nI 31) (tgt := 1187) dL_law_40 (by decide) (by decide) rfl (by decide) (la_31 hx hi hL h15 hc hZ hs')
    · exact j_tableIn (x := nI 32) (tgt := 1200) dL_law_40 (by decide) (by decide) rfl (by decide) (la_32 hx hi hL h15 hc hZ hs')
    · exact j_tableIn (x := nI 33) (tgt := 1213) dL_law_40 (by decide) (by decide) rfl (by decide) (la_33 hx hi hL h15 hc hZ hs')
    · exact j_tableIn (x := nI 34) (tgt := 1238) dL_law_40 (by decide) (by decide) rfl (by decide) (la_34 hx hi hL h15 hc hZ hs')
    · exact j_tableIn (x := nI 35) (tgt := 1263) dL_law_40 (by decide) (by decide) rfl (by decide) (la_35 hx hi hL h15 hc hZ hs')
    · exact j_tableIn (x := nI 36) (tgt := 1276) dL_law_40 (by decide) (by decide) rfl (by decide) (la_36 hx hi hL h15 hc hZ hs')
    · exact j_tableIn (x := nI 37) (tgt := 1341) dL_law_40 (by decide) (by decide) rfl (by decide) (la_37 hx hi hL h15 hc hZ hs')
    · exact j_tableIn (x := nI 38) (tgt := 1354) dL_law_40 (by decide) (by decide) rfl (by decide) (la_38 hx hi hL h15 hc hZ hs')
    · exact j_tableIn (x := nI 39) (tgt := 1367) dL_law_40 (by decide) (by decide) rfl (by decide) (la_39 hx hi hL h15 hc hZ hs')
    · exact j_tableIn (x := nI 40) (tgt := 1392) dL_law_40 (by decide) (by decide) rfl (by decide) (la_40 hx hi hL h15 hc hZ hs')
    · exact j_tableIn (x := nI 41) (tgt := 1441) dL_law_40 (by decide) (by decide) rfl (by decide) (la_41 hx hi hL h15 hc hZ hs')
    · exact j_tableIn (x := nI 42) (tgt := 1478) dL_law_40 (by decide) (by decide) rfl (by decide) (la_42 hx hi hL h15 hc hZ hs')
    · exact j_tableIn (x := nI 43) (tgt := 1515) dL_law_40 (by decide) (by decide) rfl (by decide) (la_43 hx hi hL h15 hc hZ hs')
    · exact j_tableIn (x := nI 44) (tgt := 1540) dL_law_40 (by decide) (by decide) rfl (by decide) (la_44 hx hi hL h15 hc hZ hs')
    · exact j_tableIn (x := nI 45) (tgt := 1553) dL_law_40 (by decide) (by decide) rfl (by decide) (la_45 hx hi hL h15 hc hZ hs')
    · exact j_tableIn (x := nI 46) (tgt := 1566) dL_law_40 (by decide) (by decide) rfl (by decide) (la_46 hx hi hL h15 hc hZ hs')
    · exact j_tableIn (x := nI 47) (tgt := 1591) dL_law_40 (by decide) (by decide) rfl (by decide) (la_47 hx hi hL h15 hc hZ hbc hbs hGW hxl hs)
    · exact j_tableIn (x := nI 48) (tgt := 1647) dL_law_40 (by decide) (by decide) rfl (by decide) (la_48 hx hi hL h15 hc hZ hs')
    · exact j_tableIn (x := nI 49) (tgt := 1672) dL_law_40 (by decide) (by decide) rfl (by decide) (la_49 hx hi hL h15 hc hZ hs')
  · refine j_tableOut (tgt := 1685) dL_law_40 (Or.inr (by rw [nI_toInt (by omega)]; omega)) (by decide) ?_
    obtain ⟨T, T', t, Z⟩ := hZ
    exact hs' _ _ _ _ ⟨T, T', t, zsame Z (fun _ _ => rfl) (fun _ _ => rfl) rfl⟩
theorem law_loop (hx : SCX X G L xs) (hL : L ≤ 3072) (h15 : 15 ≤ d) (hGW : GW G) (hxl : match X with | (_, l, _, _, _, _, _, _, _, _, _, _) => l.stackTraces = false) (hP : ∀ mi ml mr dom, post (some (.int 1)) mi ml mr dom) : ∀ n c, n + c = 600 → ∀ mi ml mr dom, LAZ c mi ml mr dom → J cL_law 7 RL nm (some .boolean) d G X post (20 * n) (260 * n) mi ml mr dom 23 [some (.ref 598), some (.ref 0), some (.ref 1000), some (.ref 601), some (.int (nI (6 * c))), none, none] [] := by
  intro n
  induction n with
  | zero =>
    intro c hn mi ml mr dom hZ
    refine j_iload dL_law_23 rfl ?_
    refine j_aload_n dL_law_25 rfl rfl ?_
    refine j_slen hx dL_law_26 ?_
    refine j_bipush (v := 6) dL_law_27 (by decide) ?_
    refine j_isub dL_law_29 ?_
    refine j_icmp_gt (tgt := 1691) dL_law_30 (by decide) (fun _ => ?_) (fun h => absurd ((gt_le hL (by omega)).mpr (by omega)) h)
    refine j_iconst (v := 1) dL_law_1691 (by decide) ?_
    exact j_zret rfl (Or.inr rfl) dL_law_1692 (hP _ _ _ _)
  | succ n ih =>
    intro c hn mi ml mr dom hZ
    refine j_iload dL_law_23 rfl ?_
    refine j_aload_n dL_law_25 rfl rfl ?_
    refine j_slen hx dL_law_26 ?_
    refine j_bipush (v := 6) dL_law_27 (by decide) ?_
    refine j_isub dL_law_29 ?_
    refine j_icmp_gt (tgt := 1691) dL_law_30 (by decide) (fun _ => ?_) (fun h => ?_)
    · refine j_iconst (v := 1) dL_law_1691 (by decide) ?_
      exact j_zret rfl (Or.inr rfl) dL_law_1692 (hP _ _ _ _)
    · have hi : 6 * c + 6 ≤ L := Decidable.not_not.mp (fun q => h ((gt_le hL (by omega)).mpr q))
      refine la_body hx hi hL h15 (by omega) hZ (by omega) (by omega) hGW hxl (fun mi2 ml2 mr2 dom2 hZ2 => ?_)
      refine j_iinc (lv2 := [some (.ref 598), some (.ref 0), some (.ref 1000), some (.ref 601), some (.int (nI (6 * (c + 1)))), none, none]) dL_law_1685 rfl (show nI (6 * c) + nI 6 = nI (6 * (c + 1)) by rw [nI_add]; congr 1) (by decide) rfl rfl ?_
      refine j_goto (tgt := 23) dL_law_1688 (by decide) ?_
      exact j_less (by omega) (by omega) (ih (c + 1) (by omega) _ _ _ _ hZ2)
end LAW2
