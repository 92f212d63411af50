/-! the class: Person.passesFor, Town -/
section C9
variable {G : GG} {post : PT} {mi : MI} {ml : ML} {mr : MR} {dom : List Nat} {T : Nat} {t : TW}
theorem tX3_passesFor {a : Nat} {a2 : Nat} {sill : Int32} {byDay : Int32} {k1 g1 k2 g2 s : Nat} {m1 m2 : Nat → Nat} {b : Bool} (P1 : PV mi mr a k1 g1 m1) (P2 : PV mi mr a2 k2 g2 m2) (bs : s < 2 ^ 28) (es : sill = nI s) (eb : byDay = nI (bN b)) (hp : (if (nI (shw k1 g1 s b)) = (nI (shw k2 g2 s b)) then (if (nI (bN (like m1 m2 (shw k1 g1 s b)))) = 0 then post (some (.int 0)) mi ml mr dom else post (some (.int 1)) mi ml mr dom) else post (some (.int 0)) mi ml mr dom)) : CT G 3 0 0 yX3_passesFor cX3_passesFor 5 (some .boolean) [.ref a, .ref a2, .int sill, .int byDay] mi ml mr dom post := by
  subst es; subst eb
  refine enter 1 (by decide) rfl rfl (fun X => ?_)
  refine j_aload_n dX3_passesFor_0 rfl rfl ?_
  refine j_iload_n dX3_passesFor_1 rfl rfl ?_
  refine j_iload_n dX3_passesFor_2 rfl rfl ?_
  refine cV3_29 (d1 := 2) P1.1 dX3_passesFor_3 (by decide) (Nat.le_of_ble_eq_true rfl) ?_
  refine c_shows P1.1 P1.2.2.2.2.1 P1.2.2.2.2.2.1 (by have := P1.2.2.2.2.2.2.2.1; omega) (by have := P1.2.2.2.2.2.2.2.2.1; omega) bs ?_
  refine j_istore (lv2 := [_, _, _, _, _]) dX3_passesFor_6 (by decide) rfl rfl ?_
  refine j_iload dX3_passesFor_8 rfl ?_
  refine j_aload_n dX3_passesFor_10 rfl rfl ?_
  refine j_iload_n dX3_passesFor_11 rfl rfl ?_
  refine j_iload_n dX3_passesFor_12 rfl rfl ?_
  refine cV3_29 (d1 := 2) P2.1 dX3_passesFor_13 (by decide) (Nat.le_of_ble_eq_true rfl) ?_
  refine c_shows P2.1 P2.2.2.2.2.1 P2.2.2.2.2.2.1 (by have := P2.2.2.2.2.2.2.2.1; omega) (by have := P2.2.2.2.2.2.2.2.2.1; omega) bs ?_
  refine j_icmp_ne (tgt := 33) dX3_passesFor_16 (by decide) (fun h1 => ?_) (fun h1 => ?_)
  · refine j_iconst (v := 0) dX3_passesFor_33 (by decide) ?_
    refine j_zret rfl (by decide) dX3_passesFor_34 ?_
    rw [if_neg h1] at hp
    exact hp
  · refine j_aload_n dX3_passesFor_19 rfl rfl ?_
    refine j_aload_n dX3_passesFor_20 rfl rfl ?_
    refine j_iload dX3_passesFor_21 rfl ?_
    refine cV3_33 (d1 := 1) P1.1 dX3_passesFor_23 (by decide) (Nat.le_of_ble_eq_true rfl) ?_
    refine c_isLike (m := m1) (m2 := m2) P1.1 P1.2.1 P1.2.2.1 P1.2.2.2.1 P1.2.2.2.2.2.2.1 (fun i hi => by have := P1.2.2.2.2.2.2.2.2.2 i hi; omega) P2.1 P2.2.1 P2.2.2.1 P2.2.2.2.1 P2.2.2.2.2.2.2.1 (fun i hi => by have := P2.2.2.2.2.2.2.2.2.2 i hi; omega) (Nat.lt_of_lt_of_le (shw_lt k1 g1 s b) (by decide)) ?_
    refine j_if_eq (tgt := 33) dX3_passesFor_26 (by decide) (fun h2 => ?_) (fun h2 => ?_)
    · refine j_iconst (v := 0) dX3_passesFor_33 (by decide) ?_
      refine j_zret rfl (by decide) dX3_passesFor_34 ?_
      rw [if_pos h1] at hp
      rw [if_pos h2] at hp
      exact hp
    · refine j_iconst (v := 1) dX3_passesFor_29 (by decide) ?_
      refine j_goto (tgt := 34) dX3_passesFor_30 (by decide) ?_
      refine j_zret rfl (by decide) dX3_passesFor_34 ?_
      rw [if_pos h1] at hp
      rw [if_neg h2] at hp
      exact hp
theorem c_passesFor {a a2 : Nat} {k1 g1 k2 g2 s : Nat} {m1 m2 : Nat → Nat} {b : Bool} (P1 : PV mi mr a k1 g1 m1) (P2 : PV mi mr a2 k2 g2 m2) (bs : s < 2 ^ 28) (hp : post (some (.int (nI (bN (decide (shw k1 g1 s b = shw k2 g2 s b) && like m1 m2 (shw k1 g1 s b)))))) mi ml mr dom) : CT G 3 0 0 yX3_passesFor cX3_passesFor 5 (some .boolean) [.ref a, .ref a2, .int (nI s), .int (nI (bN b))] mi ml mr dom post := by
  refine tX3_passesFor P1 P2 bs rfl rfl ?_
  have b1 := shw_lt k1 g1 s b
  have b2 := shw_lt k2 g2 s b
  rw [ife (by omega) (by omega), ifb]
  by_cases q : shw k1 g1 s b = shw k2 g2 s b
  · rw [if_pos q]
    rw [decide_eq_true q, Bool.true_and] at hp
    cases hl : like m1 m2 (shw k1 g1 s b) with
    | true => rw [hl] at hp; rw [if_pos rfl]; exact hp
    | false => rw [hl] at hp; rw [if_neg (by decide)]; exact hp
  · rw [if_neg q]
    rw [decide_eq_false q, Bool.false_and] at hp
    exact hp
theorem tX9_isDay {T : Nat} {hour : Int32} (hT : TT T) (hp : (if hour < (mi T 1) then post (some (.int 0)) mi ml mr dom else (if (mi T 2) ≤ hour then post (some (.int 0)) mi ml mr dom else post (some (.int 1)) mi ml mr dom))) : CT G 1 0 0 yX9_isDay cX9_isDay 2 (some .boolean) [.ref T, .int hour] mi ml mr dom post := by
  refine enter 0 (by decide) rfl rfl (fun X => ?_)
  refine j_iload_n dX9_isDay_0 rfl rfl ?_
  refine j_aload_n dX9_isDay_1 rfl rfl ?_
  refine gI9_15 (kT0 hT) dX9_isDay_2 ?_
  refine j_icmp_lt (tgt := 20) dX9_isDay_5 (by decide) (fun h1 => ?_) (fun h1 => ?_)
  · refine j_iconst (v := 0) dX9_isDay_20 (by decide) ?_
    refine j_zret rfl (by decide) dX9_isDay_21 ?_
    rw [if_pos h1] at hp
    exact hp
  · refine j_iload_n dX9_isDay_8 rfl rfl ?_
    refine j_aload_n dX9_isDay_9 rfl rfl ?_
    refine gI9_19 (kT0 hT) dX9_isDay_10 ?_
    refine j_icmp_ge (tgt := 20) dX9_isDay_13 (by decide) (fun h2 => ?_) (fun h2 => ?_)
    · refine j_iconst (v := 0) dX9_isDay_20 (by decide) ?_
      refine j_zret rfl (by decide) dX9_isDay_21 ?_
      rw [if_neg h1] at hp
      rw [if_pos h2] at hp
      exact hp
    · refine j_iconst (v := 1) dX9_isDay_16 (by decide) ?_
      refine j_goto (tgt := 21) dX9_isDay_17 (by decide) ?_
      refine j_zret rfl (by decide) dX9_isDay_21 ?_
      rw [if_neg h1] at hp
      rw [if_neg h2] at hp
      exact hp
theorem isD_t {x : Nat} (h1 : t 0 0 ≤ x) (h2 : x < t 0 1) : isD t x = true := by simp [isD, h1, h2]
theorem isD_f {x : Nat} (h : x < t 0 0 ∨ t 0 1 ≤ x) : isD t x = false := by
  unfold isD
  rcases h with h | h
  · rw [decide_eq_false (by omega), Bool.false_and]
  · rw [decide_eq_false (p := x < t 0 1) (by omega), Bool.and_false]
theorem c_isDay {x : Nat} (hT : TT T) (hW : WT t) (hR : RX mi T t) (hx : x < 2 ^ 31) (hp : post (some (.int (nI (bN (isD t x))))) mi ml mr dom) : CT G 1 0 0 yX9_isDay cX9_isDay 2 (some .boolean) [.ref T, .int (nI x)] mi ml mr dom post := by
  refine tX9_isDay hT ?_
  have w := hW.1
  rw [hR.dawn, hR.dusk, iflt (by omega) (by omega), ifle (by omega) (by omega)]
  split
  · rw [isD_f (Or.inl (by assumption))] at hp; exact hp
  · split
    · rw [isD_f (Or.inr (by assumption))] at hp; exact hp
    · rw [isD_t (by omega) (by omega)] at hp; exact hp
theorem tX9_gap {T : Nat} {h : Int32} (hX : XR mr) (hT : TT T) (hi : vp_in h (ln (T + 1))) (hp : post (some (.int ((mi T 3) - (mi (T + 1) (Int32.toNatClampNeg h))))) mi ml mr dom) : CT G 1 0 0 yX9_gap cX9_gap 2 (some .int) [.ref T, .int h] mi ml mr dom post := by
  refine enter 0 (by decide) rfl rfl (fun X => ?_)
  refine j_aload_n dX9_gap_0 rfl rfl ?_
  refine gI9_22 (kT0 hT) dX9_gap_1 ?_
  refine j_aload_n dX9_gap_4 rfl rfl ?_
  refine gR9_40 (kT0 hT) dX9_gap_5 (xT_sills hX hT) ?_
  refine j_iload_n dX9_gap_8 rfl rfl ?_
  refine j_iald (kT1 hT) (by assumption) dX9_gap_9 ?_
  refine j_isub dX9_gap_10 ?_
  refine j_iret rfl dX9_gap_11 ?_
  exact hp
theorem c_gap {x : Nat} (hX : XR mr) (hT : TT T) (hW : WT t) (hR : RX mi T t) (hL : 60 ≤ t 0 2) (hx : x < t 0 3) (hp : post (some (.int (nI (t 0 2 - t 1 x)))) mi ml mr dom) : CT G 1 0 0 yX9_gap cX9_gap 2 (some .int) [.ref T, .int (nI x)] mi ml mr dom post := by
  have w := hW.1
  have w2 := hW.si hx
  refine tX9_gap hX hT (inT (lT1 hT) (by omega) (by omega)) ?_
  rw [nI_clamp (by omega), hR.door, hR.sill hx, pk_sub (by omega)]
  exact hp
theorem tX9_passesBoth {T : Nat} {bulk : Int32} {h : Int32} {g : Int32} {x y : Nat} (hX : XR mr) (hT : TT T) (hW : WT t) (hR : RX mi T t) (hL : 60 ≤ t 0 2) (hx : x < t 0 3) (hy : y < t 0 3) (eh : h = nI x) (eg : g = nI y) (hp : (if (nI (t 0 2 - t 1 x)) < bulk then post (some (.int 0)) mi ml mr dom else (if (nI (t 0 2 - t 1 y)) < bulk then post (some (.int 0)) mi ml mr dom else post (some (.int 1)) mi ml mr dom))) : CT G 2 0 0 yX9_passesBoth cX9_passesBoth 4 (some .boolean) [.ref T, .int bulk, .int h, .int g] mi ml mr dom post := by
  subst eh; subst eg
  refine enter 0 (by decide) rfl rfl (fun X => ?_)
  refine j_iload_n dX9_passesBoth_0 rfl rfl ?_
  refine j_aload_n dX9_passesBoth_1 rfl rfl ?_
  refine j_iload_n dX9_passesBoth_2 rfl rfl ?_
  refine cV9_85 (d1 := 1) (kT0 hT) dX9_passesBoth_3 (by decide) (Nat.le_of_ble_eq_true rfl) ?_
  refine c_gap hX hT hW hR hL hx ?_
  refine j_icmp_gt (tgt := 22) dX9_passesBoth_6 (by decide) (fun h1 => ?_) (fun h1 => ?_)
  · refine j_iconst (v := 0) dX9_passesBoth_22 (by decide) ?_
    refine j_zret rfl (by decide) dX9_passesBoth_23 ?_
    rw [if_pos h1] at hp
    exact hp
  · refine j_iload_n dX9_passesBoth_9 rfl rfl ?_
    refine j_aload_n dX9_passesBoth_10 rfl rfl ?_
    refine j_iload_n dX9_passesBoth_11 rfl rfl ?_
    refine cV9_85 (d1 := 1) (kT0 hT) dX9_passesBoth_12 (by decide) (Nat.le_of_ble_eq_true rfl) ?_
    refine c_gap hX hT hW hR hL hy ?_
    refine j_icmp_gt (tgt := 22) dX9_passesBoth_15 (by decide) (fun h2 => ?_) (fun h2 => ?_)
    · refine j_iconst (v := 0) dX9_passesBoth_22 (by decide) ?_
      refine j_zret rfl (by decide) dX9_passesBoth_23 ?_
      rw [if_neg h1] at hp
      rw [if_pos h2] at hp
      exact hp
    · refine j_iconst (v := 1) dX9_passesBoth_18 (by decide) ?_
      refine j_goto (tgt := 23) dX9_passesBoth_19 (by decide) ?_
      refine j_zret rfl (by decide) dX9_passesBoth_23 ?_
      rw [if_neg h1] at hp
      rw [if_neg h2] at hp
      exact hp
def pasB (t : TW) (b x y : Nat) : Bool := decide (b ≤ t 0 2 - t 1 x) && decide (b ≤ t 0 2 - t 1 y)
theorem c_passesBoth {b x y : Nat} (hX : XR mr) (hT : TT T) (hW : WT t) (hR : RX mi T t) (hL : 60 ≤ t 0 2) (hb : b < 2 ^ 31) (hx : x < t 0 3) (hy : y < t 0 3) (hp : post (some (.int (nI (bN (pasB t b x y))))) mi ml mr dom) : CT G 2 0 0 yX9_passesBoth cX9_passesBoth 4 (some .boolean) [.ref T, .int (nI b), .int (nI x), .int (nI y)] mi ml mr dom post := by
  refine tX9_passesBoth hX hT hW hR hL hx hy rfl rfl ?_
  have w := hW.1
  rw [iflt (by omega) (by omega), iflt (by omega) (by omega)]
  unfold pasB at hp
  split
  · rw [decide_eq_false (by omega), Bool.false_and] at hp; exact hp
  · split
    · rw [decide_eq_false (p := b ≤ t 0 2 - t 1 y) (by omega), Bool.and_false] at hp; exact hp
    · rw [decide_eq_true (by omega), decide_eq_true (by omega)] at hp; exact hp
theorem c_shownAt0 {T : Nat} {x : Int32} {v : Nat} (hX : XR mr) (hT : TT T) (hW : WT t) (hR : RX mi T t) (hv : v < t 0 7) (ev : x = nI v) (hp : post (some (.int (nI (shw (t 4 (t 11 v)) (t 6 (t 11 v)) (t 1 (t 12 v)) (isD t (t 13 v)))))) mi ml mr dom) : CT G 3 0 0 yX9_shownAt cX9_shownAt 3 (some .int) [.ref T, .int x] mi ml mr dom post := by
  subst ev
  have w := hW.1
  obtain ⟨v1, v2, v3⟩ := hW.vi hv
  obtain ⟨hv1, hv2, hv3⟩ := hR.vi hv
  have hq := pv hX hT hW hR v1
  have hs := hR.sill v2
  refine enter 1 (by decide) rfl rfl (fun X => ?_)
  refine j_aload_n dX9_shownAt_0 rfl rfl ?_
  refine gR9_65 (kT0 hT) dX9_shownAt_1 (xT_calls hX hT) ?_
  refine j_iload_n dX9_shownAt_4 rfl rfl ?_
  refine j_aald (C := RX10) (kT7 hT) (by decide) (fun _ => rfl) (inT (lT7 hT) (by omega) (by omega)) (mr_nI (by omega) (xT_v hX hT (by omega))) dX9_shownAt_5 (by decide) ?_
  refine j_astore_n (lv2 := [_, _, _]) dX9_shownAt_6 rfl (by decide) rfl rfl ?_
  refine j_aload_n dX9_shownAt_7 rfl rfl ?_
  refine gR9_53 (kT0 hT) dX9_shownAt_8 (xT_persons hX hT) ?_
  refine j_aload_n dX9_shownAt_11 rfl rfl ?_
  refine gI9_110 (kV hT (by omega)) dX9_shownAt_12 ?_
  refine j_aald (C := RX3) (kT5 hT) (by decide) (fun _ => rfl) (by rw [hv1]; exact inT (lT5 hT) (by omega) (by omega)) (by rw [hv1]; exact mr_nI (by omega) (xT_p hX hT (by omega))) dX9_shownAt_15 (by decide) ?_
  refine j_aload_n dX9_shownAt_16 rfl rfl ?_
  refine gR9_40 (kT0 hT) dX9_shownAt_17 (xT_sills hX hT) ?_
  refine j_aload_n dX9_shownAt_20 rfl rfl ?_
  refine gI9_113 (kV hT (by omega)) dX9_shownAt_21 ?_
  refine j_iald (kT1 hT) (by rw [hv2]; exact inT (lT1 hT) (by omega) (by omega)) dX9_shownAt_24 ?_
  refine j_aload_n dX9_shownAt_25 rfl rfl ?_
  refine j_aload_n dX9_shownAt_26 rfl rfl ?_
  refine gI9_116 (kV hT (by omega)) dX9_shownAt_27 ?_
  refine cV9_119 (d1 := 1) (kT0 hT) dX9_shownAt_30 (by decide) (Nat.le_of_ble_eq_true rfl) ?_
  rw [hv3]
  refine c_isDay hT hW hR (by omega) ?_
  refine cV9_123 (d1 := 2) (kP hT (by omega)) dX9_shownAt_33 (by decide) (Nat.le_of_ble_eq_true rfl) ?_
  rw [hv2, nI_clamp (by omega), hs]
  refine c_shows hq.1 hq.2.2.2.2.1 hq.2.2.2.2.2.1 (by have := hq.2.2.2.2.2.2.2.1; omega) (by have := hq.2.2.2.2.2.2.2.2.1; omega) (by have := hW.si v2; omega) ?_
  refine j_iret rfl dX9_shownAt_36 ?_
  exact hp
theorem c_fineAt0 {T : Nat} {x : Int32} {sl : Int32} {v : Nat} (hX : XR mr) (hT : TT T) (hW : WT t) (hR : RX mi T t) (hv : v < t 0 7) {s0 : Nat} (bs0 : s0 < 2 ^ 28) (ev : x = nI v) (es : sl = nI s0) (hp : post (some (.int (nI (fineO (t 4 (t 11 v)) (t 6 (t 11 v)) (max s0 (t 1 (t 12 v))) (isD t (t 13 v)))))) mi ml mr dom) : CT G 3 0 0 yX9_fineAt cX9_fineAt 4 (some .int) [.ref T, .int x, .int sl] mi ml mr dom post := by
  subst ev; subst es
  have w := hW.1
  obtain ⟨v1, v2, v3⟩ := hW.vi hv
  obtain ⟨hv1, hv2, hv3⟩ := hR.vi hv
  have hq := pv hX hT hW hR v1
  have hs := hR.sill v2
  refine enter 1 (by decide) rfl rfl (fun X => ?_)
  refine j_aload_n dX9_fineAt_0 rfl rfl ?_
  refine gR9_65 (kT0 hT) dX9_fineAt_1 (xT_calls hX hT) ?_
  refine j_iload_n dX9_fineAt_4 rfl rfl ?_
  refine j_aald (C := RX10) (kT7 hT) (by decide) (fun _ => rfl) (inT (lT7 hT) (by omega) (by omega)) (mr_nI (by omega) (xT_v hX hT (by omega))) dX9_fineAt_5 (by decide) ?_
  refine j_astore_n (lv2 := [_, _, _, _]) dX9_fineAt_6 rfl (by decide) rfl rfl ?_
  refine j_aload_n dX9_fineAt_7 rfl rfl ?_
  refine gR9_53 (kT0 hT) dX9_fineAt_8 (xT_persons hX hT) ?_
  refine j_aload_n dX9_fineAt_11 rfl rfl ?_
  refine gI9_110 (kV hT (by omega)) dX9_fineAt_12 ?_
  refine j_aald (C := RX3) (kT5 hT) (by decide) (fun _ => rfl) (by rw [hv1]; exact inT (lT5 hT) (by omega) (by omega)) (by rw [hv1]; exact mr_nI (by omega) (xT_p hX hT (by omega))) dX9_fineAt_15 (by decide) ?_
  refine j_iload_n dX9_fineAt_16 rfl rfl ?_
  refine j_aload_n dX9_fineAt_17 rfl rfl ?_
  refine gR9_40 (kT0 hT) dX9_fineAt_18 (xT_sills hX hT) ?_
  refine j_aload_n dX9_fineAt_21 rfl rfl ?_
  refine gI9_113 (kV hT (by omega)) dX9_fineAt_22 ?_
  refine j_iald (kT1 hT) (by rw [hv2]; exact inT (lT1 hT) (by omega) (by omega)) dX9_fineAt_25 ?_
  refine j_mmax9_127 dX9_fineAt_26 (by decide) (Nat.le_of_ble_eq_true rfl) ?_
  refine j_aload_n dX9_fineAt_29 rfl rfl ?_
  refine j_aload_n dX9_fineAt_30 rfl rfl ?_
  refine gI9_116 (kV hT (by omega)) dX9_fineAt_31 ?_
  refine cV9_119 (d1 := 1) (kT0 hT) dX9_fineAt_34 (by decide) (Nat.le_of_ble_eq_true rfl) ?_
  rw [hv3, hv2, nI_clamp (by omega), hs, imax_nI (by omega) (by have := hW.si v2; omega)]
  refine c_isDay hT hW hR (by omega) ?_
  refine cV9_133 (d1 := 2) (kP hT (by omega)) dX9_fineAt_37 (by decide) (Nat.le_of_ble_eq_true rfl) ?_
  refine c_fineOver hq.1 hq.2.2.2.2.1 hq.2.2.2.2.2.1 (by have := hq.2.2.2.2.2.2.2.1; omega) (by have := hq.2.2.2.2.2.2.2.2.1; omega) (by have := hW.si v2; omega) ?_
  refine j_iret rfl dX9_fineAt_40 ?_
  exact hp
def shA (t : TW) (v : Nat) : Nat := shw (t 4 (t 11 v)) (t 6 (t 11 v)) (t 1 (t 12 v)) (isD t (t 13 v))
def fiA (t : TW) (v s : Nat) : Nat := fineO (t 4 (t 11 v)) (t 6 (t 11 v)) (max s (t 1 (t 12 v))) (isD t (t 13 v))
theorem fineO_le (k h s : Nat) (b : Bool) : fineO k h s b ≤ h / 2 := by unfold fineO; split <;> omega
end C9
