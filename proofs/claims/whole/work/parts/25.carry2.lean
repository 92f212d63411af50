/-! the class: Carrying, second half -/
section C0b
variable {G : GG} {ml : ML} {mr : MR} {dom : List Nat} {T : Nat} {t : TW} {v : Nat → Nat}
def frs (p : Nat) (W : Nat → Nat) : Nat → Nat := fun i => if 32 * p ≤ i ∧ i < 32 * p + 32 then 1000000 else W i
def wgh (t : TW) (fw v : Nat → Nat) (p : Nat) (W : Nat → Nat) : Nat → Nat := if t 4 p = 1 then co t fw v p 5 (t 5 p) 0 0 (frs p W) else frs p W
theorem frs_le {p : Nat} {W : Nat → Nat} (h : le6 W) : le6 (frs p W) := by
  intro i; unfold frs; split
  · exact Nat.le_refl _
  · exact h i
theorem wgh_le {fw : Nat → Nat} {p : Nat} {W : Nat → Nat} (h : le6 W) : le6 (wgh t fw v p W) := by
  unfold wgh; split
  · exact co_le _ _ _ _ _ _ _ _ _ (frs_le h)
  · exact frs_le h
theorem c_weighP {mi : MI} {post : PT} {fw W : Nat → Nat} {p : Nat} (hX : XR mr) (hT : TT T) (hW : WT t) (hR : RX mi T t) (hG : GP mi t v) (hfl : ∀ i, fw i ≤ 1000000) (hf : ∀ i, i < 36 → mi (T + 4) i = nI (fw i)) (hp1 : p < t 0 5) (hle : le6 W) (hWm : ∀ i, i < 192 → mi 16 i = nI (W i)) (hp : ∀ m, off1 16 m mi → (∀ i, i < 192 → m 16 i = nI (wgh t fw v p W i)) → post none m ml mr dom) : CT G 9 0 0 yX0_weigh cX0_weigh 5 none [.ref 12, .ref T, .ref 8, .int (nI p)] mi ml mr dom post := by
  have w := hW.1
  refine enter 1 (by decide) rfl rfl (fun X => ?_)
  refine j_iconst (v := 0) dX0_weigh_0 (by decide) ?_
  refine j_istore (lv2 := [_, _, _, _, _]) dX0_weigh_1 (by decide) rfl rfl ?_
  skip
  refine lq (n := 32) (H := fun i => ∀ m : MI, off1 16 m mi → (∀ j, j < 192 → m 16 j = nI (if 32 * p ≤ j ∧ j < 32 * p + i then 1000000 else W j)) → J cX0_weigh 5 yX0_weigh.cls yX0_weigh.name none 9 G X post 0 0 m ml mr dom 3 [some (.ref 12), some (.ref T), some (.ref 8), some (.int (nI p)), some (.int (nI i))] []) (fun m hm hs => ?_) (fun i hi ih m hm hs => ?_) mi (fun _ _ => rfl) (fun j hj => by rw [if_neg (by omega)]; exact hWm j hj)
  · skip
    refine j_iload dX0_weigh_3 rfl ?_
    refine j_bipush (v := 32) dX0_weigh_5 (by decide) ?_
    refine j_icmp_ge (tgt := 30) dX0_weigh_7 (by decide) (fun _ => ?_) (fun h7 => absurd (nI_le (a := 32) (b := 32) (Nat.le_refl 32) (by decide)) h7)
    refine j_aload_n dX0_weigh_30 rfl rfl ?_
    refine gR0_83 (kT0 hT) dX0_weigh_31 (xT_persons hX hT) ?_
    refine j_iload_n dX0_weigh_34 rfl rfl ?_
    refine j_aald (C := RX3) (kT5 hT) (by decide) (fun _ => rfl) (inT (lT5 hT) (show p < 6 by omega) (by omega)) (mr_nI (by omega) (xT_p hX hT (show p < 6 by omega))) dX0_weigh_35 (by decide) ?_
    refine gI0_87 (kP hT (show p < 6 by omega)) dX0_weigh_36 ?_
    refine j_iconst (v := 1) dX0_weigh_39 (by decide) ?_
    refine j_icmp_ne (tgt := 61) dX0_weigh_40 (by decide) (fun h40 => ?_) (fun h40 => ?_)
    · refine j_vret rfl dX0_weigh_61 ?_
      first
        | exact hp m2 (hm2.tr hm) (fun i hi => by rw [hs2 i hi, wgh, if_pos h40])
        | (rw [((RX.o16 hT hm hR).pe hp1).1, show (1 : Int32) = nI 1 from rfl, nI_eq (by have := (hW.pe hp1).1; omega) (by omega)] at h40
           exact hp m hm (fun i hi => by rw [hs i hi, wgh, if_neg h40]; rfl))
    · refine j_aload_n dX0_weigh_43 rfl rfl ?_
      refine j_aload_n dX0_weigh_44 rfl rfl ?_
      refine j_aload_n dX0_weigh_45 rfl rfl ?_
      refine j_iload_n dX0_weigh_46 rfl rfl ?_
      refine j_aload_n dX0_weigh_47 rfl rfl ?_
      refine gR0_83 (kT0 hT) dX0_weigh_48 (xT_persons hX hT) ?_
      refine j_iload_n dX0_weigh_51 rfl rfl ?_
      refine j_aald (C := RX3) (kT5 hT) (by decide) (fun _ => rfl) (inT (lT5 hT) (show p < 6 by omega) (by omega)) (mr_nI (by omega) (xT_p hX hT (show p < 6 by omega))) dX0_weigh_52 (by decide) ?_
      refine gI0_92 (kP hT (show p < 6 by omega)) dX0_weigh_53 ?_
      refine j_iconst (v := 0) dX0_weigh_56 (by decide) ?_
      refine j_iconst (v := 0) dX0_weigh_57 (by decide) ?_
      refine cV0_95 (d1 := 8) rfl dX0_weigh_58 (by decide) (Nat.le_of_ble_eq_true rfl) ?_
      rw [((RX.o16 hT hm hR).pe hp1).1, show (1 : Int32) = nI 1 from rfl, nI_eq (by have := (hW.pe hp1).1; omega) (by omega)] at h40
      rw [((RX.o16 hT hm hR).pe hp1).2.1, show (0 : Int32) = nI 0 from rfl]
      have ho := (hW.pe hp1).2.1
      refine c_carryOn hX hT hW hfl hp1 5 (t 5 p) 0 0 (frs p W) m _ (RX.o16 hT hm hR) (GP.o16 hm hG) (fun i hi => by rw [hm (T + 4) (by rcases hT with rfl | rfl <;> omega)]; exact hf i hi) (by omega) (by omega) (by decide) (by omega) (frs_le hle) hs (fun m2 hm2 hs2 => ?_)
      refine j_vret rfl dX0_weigh_61 ?_
      first
        | exact hp m2 (hm2.tr hm) (fun i hi => by rw [hs2 i hi, wgh, if_pos h40])
        | (rw [((RX.o16 hT hm hR).pe hp1).1, show (1 : Int32) = nI 1 from rfl, nI_eq (by have := (hW.pe hp1).1; omega) (by omega)] at h40
           exact hp m hm (fun i hi => by rw [hs i hi, wgh, if_neg h40]; rfl))
  · skip
    refine j_iload dX0_weigh_3 rfl ?_
    refine j_bipush (v := 32) dX0_weigh_5 (by decide) ?_
    refine j_icmp_ge (tgt := 30) dX0_weigh_7 (by decide) (fun h7 => absurd h7 (nI_ge (b := 32) hi (by decide))) (fun _ => ?_)
    refine j_aload_n dX0_weigh_10 rfl rfl ?_
    refine gR0_21 rfl dX0_weigh_11 (x_minutes hX) ?_
    refine j_iload_n dX0_weigh_14 rfl rfl ?_
    refine j_bipush (v := 32) dX0_weigh_15 (by decide) ?_
    refine j_imul dX0_weigh_17 ?_
    refine j_iload dX0_weigh_18 rfl ?_
    refine j_iadd dX0_weigh_20 ?_
    rw [ix32]
    refine j_ldc wd1019 dX0_weigh_21 ?_
    refine j_iast rfl (inT (a := 16) (N := 192) rfl (show 32 * p + i < 192 by omega) (by omega)) dX0_weigh_23 ?_
    rw [nI_clamp (by omega)]
    refine j_iinc1 (lv2 := [_, _, _, _, _]) dX0_weigh_24 rfl (by decide) rfl rfl ?_
    refine j_goto (tgt := 3) dX0_weigh_27 (by decide) ?_
    rw [nI_1]
    refine ih _ hm.up (fun j hj => ?_)
    by_cases hjp : j = 32 * p + i
    · subst hjp; rw [up_at, if_pos ⟨by omega, by omega⟩]; rfl
    · rw [up_ne _ _ hjp, hs j hj]
      by_cases hc : 32 * p ≤ j ∧ j < 32 * p + i
      · rw [if_pos hc, if_pos ⟨hc.1, by omega⟩]
      · rw [if_neg hc, if_neg (by omega)]
def wAll (t : TW) (fw v : Nat → Nat) (W : Nat → Nat) : Nat → Nat := fu (fun p W => wgh t fw v p W) (t 0 5) W
theorem wAll_le {fw W : Nat → Nat} (h : le6 W) : le6 (wAll t fw v W) := fu_inv (fun _ _ h => wgh_le h) _ h
theorem c_weighAll {mi : MI} {post : PT} {fw W : Nat → Nat} (hX : XR mr) (hT : TT T) (hW : WT t) (hR : RX mi T t) (hG : GP mi t v) (hfl : ∀ i, fw i ≤ 1000000) (hf : ∀ i, i < 36 → mi (T + 4) i = nI (fw i)) (hle : le6 W) (hWm : ∀ i, i < 192 → mi 16 i = nI (W i)) (hp : ∀ m, off1 16 m mi → (∀ i, i < 192 → m 16 i = nI (wAll t fw v W i)) → post none m ml mr dom) : CT G 10 0 0 yX0_weighAll cX0_weighAll 4 none [.ref 12, .ref T, .ref 8] mi ml mr dom post := by
  have w := hW.1
  refine enter 1 (by decide) rfl rfl (fun X => ?_)
  refine j_iconst (v := 0) dX0_weighAll_0 (by decide) ?_
  refine j_istore_n (lv2 := [_, _, _, _]) dX0_weighAll_1 rfl (by decide) rfl rfl ?_
  skip
  refine fl (n := t 0 5) (s0 := W) (I := le6) (F := fun p W => wgh t fw v p W) (H := fun p W => ∀ m : MI, off1 16 m mi → (∀ i, i < 192 → m 16 i = nI (W i)) → J cX0_weighAll 4 yX0_weighAll.cls yX0_weighAll.name none 10 G X post 0 0 m ml mr dom 2 [some (.ref 12), some (.ref T), some (.ref 8), some (.int (nI p))] []) hle (fun _ _ h => wgh_le h) (fun p hp1 W hle ih m hm hs => ?_) (fun m hm hs => ?_) mi (fun _ _ => rfl) hWm
  · skip
    refine j_iload_n dX0_weighAll_2 rfl rfl ?_
    refine j_aload_n dX0_weighAll_3 rfl rfl ?_
    refine gI0_44 (kT0 hT) dX0_weighAll_4 ?_
    refine j_icmp_ge (tgt := 23) dX0_weighAll_7 (by decide) (fun h7 => absurd (by rw [(RX.o16 hT hm hR).people] at h7; exact h7) (nI_ge hp1 (by omega))) (fun _ => ?_)
    refine j_aload_n dX0_weighAll_10 rfl rfl ?_
    refine j_aload_n dX0_weighAll_11 rfl rfl ?_
    refine j_aload_n dX0_weighAll_12 rfl rfl ?_
    refine j_iload_n dX0_weighAll_13 rfl rfl ?_
    refine cV0_61 (d1 := 9) rfl dX0_weighAll_14 (by decide) (Nat.le_of_ble_eq_true rfl) ?_
    refine c_weighP hX hT hW (RX.o16 hT hm hR) (GP.o16 hm hG) hfl (fun i hi => by rw [hm (T + 4) (by rcases hT with rfl | rfl <;> omega)]; exact hf i hi) hp1 hle hs (fun m2 hm2 hs2 => ?_)
    refine j_iinc1 (lv2 := [_, _, _, _]) dX0_weighAll_17 rfl (by decide) rfl rfl ?_
    refine j_goto (tgt := 2) dX0_weighAll_20 (by decide) ?_
    rw [nI_1]
    exact ih m2 (hm2.tr hm) hs2
  · skip
    refine j_iload_n dX0_weighAll_2 rfl rfl ?_
    refine j_aload_n dX0_weighAll_3 rfl rfl ?_
    refine gI0_44 (kT0 hT) dX0_weighAll_4 ?_
    refine j_icmp_ge (tgt := 23) dX0_weighAll_7 (by decide) (fun _ => ?_) (fun h7 => absurd (by rw [(RX.o16 hT hm hR).people]; exact nI_le (Nat.le_refl _) (by omega)) h7)
    refine j_vret rfl dX0_weighAll_23 ?_
    exact hp m hm hs
def qk (W : Nat → Nat) (g n : Nat) : Nat := fu (fun p b => min b (W (32 * p + 2 ^ g))) n 1000000
theorem qk_le (W : Nat → Nat) (g n : Nat) : qk W g n ≤ 1000000 := fu_inv (I := fun b => b ≤ 1000000) (fun _ _ h => Nat.le_trans (Nat.min_le_left _ _) h) n (Nat.le_refl _)
theorem c_quickest {mi : MI} {post : PT} {W : Nat → Nat} {n g : Nat} (hX : XR mr) (hn : n ≤ 6) (hg : g < 5) (hle : le6 W) (hWm : ∀ i, i < 192 → mi 16 i = nI (W i)) (hp : post (some (.int (nI (qk W g n)))) mi ml mr dom) : CT G 2 0 0 yX0_quickest cX0_quickest 5 (some .int) [.ref 12, .int (nI n), .int (nI g)] mi ml mr dom post := by
  have h2g : 2 ^ g < 2 ^ 5 := Nat.pow_lt_pow_right (by omega) hg
  refine enter 2 (by decide) rfl rfl (fun X => ?_)
  refine j_ldc wd1019 dX0_quickest_0 ?_
  refine j_istore_n (lv2 := [_, _, _, _, _]) dX0_quickest_2 rfl (by decide) rfl rfl ?_
  refine j_iconst (v := 0) dX0_quickest_3 (by decide) ?_
  refine j_istore (lv2 := [_, _, _, _, _]) dX0_quickest_4 (by decide) rfl rfl ?_
  skip
  refine fl (n := n) (s0 := 1000000) (I := fun b => b ≤ 1000000) (F := fun p b => min b (W (32 * p + 2 ^ g))) (H := fun p b => J cX0_quickest 5 yX0_quickest.cls yX0_quickest.name (some .int) 2 G X post 0 0 mi ml mr dom 6 [some (.ref 12), some (.int (nI n)), some (.int (nI g)), some (.int (nI b)), some (.int (nI p))] []) (Nat.le_refl _) (fun _ _ h => Nat.le_trans (Nat.min_le_left _ _) h) (fun p hp1 b hb ih => ?_) ?_
  · skip
    refine j_iload dX0_quickest_6 rfl ?_
    refine j_iload_n dX0_quickest_8 rfl rfl ?_
    refine j_icmp_ge (tgt := 37) dX0_quickest_9 (by decide) (fun h9 => absurd h9 (nI_ge hp1 (by omega))) (fun _ => ?_)
    refine j_iload_n dX0_quickest_12 rfl rfl ?_
    refine j_aload_n dX0_quickest_13 rfl rfl ?_
    refine gR0_21 rfl dX0_quickest_14 (x_minutes hX) ?_
    refine j_iload dX0_quickest_17 rfl ?_
    refine j_bipush (v := 32) dX0_quickest_19 (by decide) ?_
    refine j_imul dX0_quickest_21 ?_
    refine j_iconst (v := 1) dX0_quickest_22 (by decide) ?_
    refine j_iload_n dX0_quickest_23 rfl rfl ?_
    refine j_ishl dX0_quickest_24 ?_
    refine j_iadd dX0_quickest_25 ?_
    rw [bit_one g (by omega), ix32]
    refine j_iald rfl (inT (a := 16) (N := 192) rfl (show 32 * p + 2 ^ g < 192 by omega) (by omega)) dX0_quickest_26 ?_
    rw [nI_clamp (by omega), hWm (32 * p + 2 ^ g) (by omega)]
    refine j_mmin0_65 dX0_quickest_27 (by decide) (Nat.le_of_ble_eq_true rfl) ?_
    rw [imin_nI (by omega) (by have := hle (32 * p + 2 ^ g); omega)]
    refine j_istore_n (lv2 := [_, _, _, _, _]) dX0_quickest_30 rfl (by decide) rfl rfl ?_
    refine j_iinc1 (lv2 := [_, _, _, _, _]) dX0_quickest_31 rfl (by decide) rfl rfl ?_
    refine j_goto (tgt := 6) dX0_quickest_34 (by decide) ?_
    rw [nI_1]
    exact ih
  · skip
    refine j_iload dX0_quickest_6 rfl ?_
    refine j_iload_n dX0_quickest_8 rfl rfl ?_
    refine j_icmp_ge (tgt := 37) dX0_quickest_9 (by decide) (fun _ => ?_) (fun h9 => absurd (nI_le (Nat.le_refl _) (by omega)) h9)
    refine j_iload_n dX0_quickest_37 rfl rfl ?_
    refine j_iret rfl dX0_quickest_38 ?_
    exact hp
theorem c_leftLying {mi : MI} {post : PT} {fw W : Nat → Nat} (hX : XR mr) (hT : TT T) (hW : WT t) (hR : RX mi T t) (hG : GP mi t v) (hfl : ∀ i, fw i ≤ 1000000) (hf : ∀ i, i < 36 → mi (T + 4) i = nI (fw i)) (hle : le6 W) (hWm : ∀ i, i < 192 → mi 16 i = nI (W i)) (hp : ∀ m, off1 16 m mi → (∀ i, i < 192 → m 16 i = nI (wAll t fw v W i)) → post (some (.int (nI (bst (fun g => mgo t v g && decide (1000000 ≤ qk (wAll t fw v W) g (t 0 5))) (t 0 6))))) m ml mr dom) : CT G 11 0 0 yX0_leftLying cX0_leftLying 5 (some .int) [.ref 12, .ref T, .ref 8] mi ml mr dom post := by
  have w := hW.1
  refine enter 2 (by decide) rfl rfl (fun X => ?_)
  refine j_aload_n dX0_leftLying_0 rfl rfl ?_
  refine j_aload_n dX0_leftLying_1 rfl rfl ?_
  refine j_aload_n dX0_leftLying_2 rfl rfl ?_
  refine cV0_31 (d1 := 10) rfl dX0_leftLying_3 (by decide) (Nat.le_of_ble_eq_true rfl) ?_
  refine c_weighAll hX hT hW hR hG hfl hf hle hWm (fun m hm hs => ?_)
  refine j_iconst (v := 0) dX0_leftLying_6 (by decide) ?_
  refine j_istore_n (lv2 := [_, _, _, _, _]) dX0_leftLying_7 rfl (by decide) rfl rfl ?_
  refine j_iconst (v := 0) dX0_leftLying_8 (by decide) ?_
  refine j_istore (lv2 := [_, _, _, _, _]) dX0_leftLying_9 (by decide) rfl rfl ?_
  skip
  have hle2 := wAll_le (t := t) (v := v) (fw := fw) hle
  generalize wAll t fw v W = W2 at hle2 hs hp
  refine lq (n := t 0 6) (H := fun g => J cX0_leftLying 5 yX0_leftLying.cls yX0_leftLying.name (some .int) 11 G X post 0 0 m ml mr dom 11 [some (.ref 12), some (.ref T), some (.ref 8), some (.int (nI (bst (fun g => mgo t v g && decide (1000000 ≤ qk W2 g (t 0 5))) g))), some (.int (nI g))] []) ?_ (fun g hg ih => ?_)
  · skip
    refine j_iload dX0_leftLying_11 rfl ?_
    refine j_aload_n dX0_leftLying_13 rfl rfl ?_
    refine gI0_35 (kT0 hT) dX0_leftLying_14 ?_
    refine j_icmp_ge (tgt := 58) dX0_leftLying_17 (by decide) (fun _ => ?_) (fun h17 => absurd (by rw [(RX.o16 hT hm hR).goods]; exact nI_le (Nat.le_refl _) (by omega)) h17)
    refine j_iload_n dX0_leftLying_58 rfl rfl ?_
    refine j_iret rfl dX0_leftLying_59 ?_
    exact hp m hm hs
  · skip
    refine j_iload dX0_leftLying_11 rfl ?_
    refine j_aload_n dX0_leftLying_13 rfl rfl ?_
    refine gI0_35 (kT0 hT) dX0_leftLying_14 ?_
    refine j_icmp_ge (tgt := 58) dX0_leftLying_17 (by decide) (fun h17 => absurd (by rw [(RX.o16 hT hm hR).goods] at h17; exact h17) (nI_ge hg (by omega))) (fun _ => ?_)
    refine j_aload_n dX0_leftLying_20 rfl rfl ?_
    refine j_aload_n dX0_leftLying_21 rfl rfl ?_
    refine j_iload dX0_leftLying_22 rfl ?_
    refine cS0_40 (d1 := 2) dX0_leftLying_24 (by decide) (Nat.le_of_ble_eq_true rfl) ?_
    refine c_mustGo hX hT hW (RX.o16 hT hm hR) (GP.o16 hm hG) hg ?_
    refine j_if_eq (tgt := 52) dX0_leftLying_27 (by decide) (fun h27 => ?_) (fun h27 => ?_)
    · refine j_iinc1 (lv2 := [_, _, _, _, _]) dX0_leftLying_52 rfl (by decide) rfl rfl ?_
      refine j_goto (tgt := 11) dX0_leftLying_55 (by decide) ?_
      rw [nI_1]
      first
        | (rw [bN_eq0] at h27; rw [bst, if_neg (by rw [h27]; simp)] at ih; exact ih)
        | (rw [bN_eq0, Bool.not_eq_false] at h27
           rw [show (1000000 : Int32) = nI 1000000 from rfl, nI_ltI (by have := qk_le W2 g (t 0 5); omega) (by omega)] at h42
           first
             | (rw [bst, if_neg (by rw [decide_eq_false (by omega)]; simp)] at ih; exact ih)
             | (rw [bit_set _ (bst_256 _ (by omega)) _ (by omega)]
                rw [bst, if_pos (by rw [h27, decide_eq_true (by omega)]; rfl)] at ih; exact ih))
    · refine j_aload_n dX0_leftLying_30 rfl rfl ?_
      refine j_aload_n dX0_leftLying_31 rfl rfl ?_
      refine gI0_44 (kT0 hT) dX0_leftLying_32 ?_
      refine j_iload dX0_leftLying_35 rfl ?_
      refine cV0_47 (d1 := 2) rfl dX0_leftLying_37 (by decide) (Nat.le_of_ble_eq_true rfl) ?_
      rw [(RX.o16 hT hm hR).people]
      refine c_quickest hX (by omega) (by omega) hle2 hs ?_
      refine j_ldc wd1019 dX0_leftLying_40 ?_
      refine j_icmp_lt (tgt := 52) dX0_leftLying_42 (by decide) (fun h42 => ?_) (fun h42 => ?_)
      · refine j_iinc1 (lv2 := [_, _, _, _, _]) dX0_leftLying_52 rfl (by decide) rfl rfl ?_
        refine j_goto (tgt := 11) dX0_leftLying_55 (by decide) ?_
        rw [nI_1]
        first
          | (rw [bN_eq0] at h27; rw [bst, if_neg (by rw [h27]; simp)] at ih; exact ih)
          | (rw [bN_eq0, Bool.not_eq_false] at h27
             rw [show (1000000 : Int32) = nI 1000000 from rfl, nI_ltI (by have := qk_le W2 g (t 0 5); omega) (by omega)] at h42
             first
               | (rw [bst, if_neg (by rw [decide_eq_false (by omega)]; simp)] at ih; exact ih)
               | (rw [bit_set _ (bst_256 _ (by omega)) _ (by omega)]
                  rw [bst, if_pos (by rw [h27, decide_eq_true (by omega)]; rfl)] at ih; exact ih))
      · refine j_iload_n dX0_leftLying_45 rfl rfl ?_
        refine j_iconst (v := 1) dX0_leftLying_46 (by decide) ?_
        refine j_iload dX0_leftLying_47 rfl ?_
        refine j_ishl dX0_leftLying_49 ?_
        refine j_ior dX0_leftLying_50 ?_
        refine j_istore_n (lv2 := [_, _, _, _, _]) dX0_leftLying_51 rfl (by decide) rfl rfl ?_
        refine j_iinc1 (lv2 := [_, _, _, _, _]) dX0_leftLying_52 rfl (by decide) rfl rfl ?_
        refine j_goto (tgt := 11) dX0_leftLying_55 (by decide) ?_
        rw [nI_1]
        first
          | (rw [bN_eq0] at h27; rw [bst, if_neg (by rw [h27]; simp)] at ih; exact ih)
          | (rw [bN_eq0, Bool.not_eq_false] at h27
             rw [show (1000000 : Int32) = nI 1000000 from rfl, nI_ltI (by have := qk_le W2 g (t 0 5); omega) (by omega)] at h42
             first
               | (rw [bst, if_neg (by rw [decide_eq_false (by omega)]; simp)] at ih; exact ih)
               | (rw [bit_set _ (bst_256 _ (by omega)) _ (by omega)]
                  rw [bst, if_pos (by rw [h27, decide_eq_true (by omega)]; rfl)] at ih; exact ih))
theorem c_minutesAlone {mi : MI} {post : PT} {fw W : Nat → Nat} {p : Nat} (hX : XR mr) (hT : TT T) (hW : WT t) (hR : RX mi T t) (hG : GP mi t v) (hfl : ∀ i, fw i ≤ 1000000) (hf : ∀ i, i < 36 → mi (T + 4) i = nI (fw i)) (hp1 : p < t 0 5) (hle : le6 W) (hWm : ∀ i, i < 192 → mi 16 i = nI (W i)) (hp : ∀ m, off1 16 m mi → (∀ i, i < 192 → m 16 i = nI (wgh t fw v p W i)) → post (some (.int (nI (wgh t fw v p W (32 * p + bst (fun g => decide (wgh t fw v p W (32 * p + 2 ^ g) < 1000000)) (t 0 6)))))) m ml mr dom) : CT G 10 0 0 yX0_minutesAlone cX0_minutesAlone 6 (some .int) [.ref 12, .ref T, .ref 8, .int (nI p)] mi ml mr dom post := by
  have w := hW.1
  refine enter 2 (by decide) rfl rfl (fun X => ?_)
  refine j_aload_n dX0_minutesAlone_0 rfl rfl ?_
  refine j_aload_n dX0_minutesAlone_1 rfl rfl ?_
  refine j_aload_n dX0_minutesAlone_2 rfl rfl ?_
  refine j_iload_n dX0_minutesAlone_3 rfl rfl ?_
  refine cV0_61 (d1 := 9) rfl dX0_minutesAlone_4 (by decide) (Nat.le_of_ble_eq_true rfl) ?_
  refine c_weighP hX hT hW hR hG hfl hf hp1 hle hWm (fun m hm hs => ?_)
  refine j_iconst (v := 0) dX0_minutesAlone_7 (by decide) ?_
  refine j_istore (lv2 := [_, _, _, _, _, _]) dX0_minutesAlone_8 (by decide) rfl rfl ?_
  refine j_iconst (v := 0) dX0_minutesAlone_10 (by decide) ?_
  refine j_istore (lv2 := [_, _, _, _, _, _]) dX0_minutesAlone_11 (by decide) rfl rfl ?_
  skip
  have hle2 := wgh_le (t := t) (v := v) (fw := fw) (p := p) hle
  generalize wgh t fw v p W = W2 at hle2 hs hp
  have hbl : bst (fun g => decide (W2 (32 * p + 2 ^ g) < 1000000)) (t 0 6) < 32 := Nat.lt_of_lt_of_le (bst_lt _ _) (Nat.pow_le_pow_right (by omega) (show t 0 6 ≤ 5 by omega))
  refine lq (n := t 0 6) (H := fun g => J cX0_minutesAlone 6 yX0_minutesAlone.cls yX0_minutesAlone.name (some .int) 10 G X post 0 0 m ml mr dom 13 [some (.ref 12), some (.ref T), some (.ref 8), some (.int (nI p)), some (.int (nI (bst (fun g => decide (W2 (32 * p + 2 ^ g) < 1000000)) g))), some (.int (nI g))] []) ?_ (fun g hg ih => ?_)
  · skip
    refine j_iload dX0_minutesAlone_13 rfl ?_
    refine j_aload_n dX0_minutesAlone_15 rfl rfl ?_
    refine gI0_35 (kT0 hT) dX0_minutesAlone_16 ?_
    refine j_icmp_ge (tgt := 56) dX0_minutesAlone_19 (by decide) (fun _ => ?_) (fun h19 => absurd (by rw [(RX.o16 hT hm hR).goods]; exact nI_le (Nat.le_refl _) (by omega)) h19)
    refine j_aload_n dX0_minutesAlone_56 rfl rfl ?_
    refine gR0_21 rfl dX0_minutesAlone_57 (x_minutes hX) ?_
    refine j_iload_n dX0_minutesAlone_60 rfl rfl ?_
    refine j_bipush (v := 32) dX0_minutesAlone_61 (by decide) ?_
    refine j_imul dX0_minutesAlone_63 ?_
    refine j_iload dX0_minutesAlone_64 rfl ?_
    refine j_iadd dX0_minutesAlone_66 ?_
    rw [ix32]
    refine j_iald rfl (inT (a := 16) (N := 192) rfl (show _ < 192 by omega) (by omega)) dX0_minutesAlone_67 ?_
    rw [nI_clamp (by omega), hs _ (by omega)]
    refine j_iret rfl dX0_minutesAlone_68 ?_
    exact hp m hm hs
  · have h2g : 2 ^ g < 2 ^ 5 := Nat.pow_lt_pow_right (by omega) (by omega)
    refine j_iload dX0_minutesAlone_13 rfl ?_
    refine j_aload_n dX0_minutesAlone_15 rfl rfl ?_
    refine gI0_35 (kT0 hT) dX0_minutesAlone_16 ?_
    refine j_icmp_ge (tgt := 56) dX0_minutesAlone_19 (by decide) (fun h19 => absurd (by rw [(RX.o16 hT hm hR).goods] at h19; exact h19) (nI_ge hg (by omega))) (fun _ => ?_)
    refine j_aload_n dX0_minutesAlone_22 rfl rfl ?_
    refine gR0_21 rfl dX0_minutesAlone_23 (x_minutes hX) ?_
    refine j_iload_n dX0_minutesAlone_26 rfl rfl ?_
    refine j_bipush (v := 32) dX0_minutesAlone_27 (by decide) ?_
    refine j_imul dX0_minutesAlone_29 ?_
    refine j_iconst (v := 1) dX0_minutesAlone_30 (by decide) ?_
    refine j_iload dX0_minutesAlone_31 rfl ?_
    refine j_ishl dX0_minutesAlone_33 ?_
    refine j_iadd dX0_minutesAlone_34 ?_
    rw [bit_one g (by omega), ix32]
    refine j_iald rfl (inT (a := 16) (N := 192) rfl (show 32 * p + 2 ^ g < 192 by omega) (by omega)) dX0_minutesAlone_35 ?_
    rw [nI_clamp (by omega), hs (32 * p + 2 ^ g) (by omega)]
    refine j_ldc wd1019 dX0_minutesAlone_36 ?_
    refine j_icmp_ge (tgt := 50) dX0_minutesAlone_38 (by decide) (fun h38 => ?_) (fun h38 => ?_)
    · refine j_iinc1 (lv2 := [_, _, _, _, _, _]) dX0_minutesAlone_50 rfl (by decide) rfl rfl ?_
      refine j_goto (tgt := 13) dX0_minutesAlone_53 (by decide) ?_
      rw [nI_1]
      rw [show (1000000 : Int32) = nI 1000000 from rfl, nI_leI (by omega) (by have := hle2 (32 * p + 2 ^ g); omega)] at h38
      first
        | (rw [bst, if_neg (by rw [decide_eq_false (by omega)]; simp)] at ih; exact ih)
        | (rw [bit_set _ (bst_256 _ (by omega)) _ (by omega)]
           rw [bst, if_pos (by rw [decide_eq_true (by omega)])] at ih; exact ih)
    · refine j_iload dX0_minutesAlone_41 rfl ?_
      refine j_iconst (v := 1) dX0_minutesAlone_43 (by decide) ?_
      refine j_iload dX0_minutesAlone_44 rfl ?_
      refine j_ishl dX0_minutesAlone_46 ?_
      refine j_ior dX0_minutesAlone_47 ?_
      refine j_istore (lv2 := [_, _, _, _, _, _]) dX0_minutesAlone_48 (by decide) rfl rfl ?_
      refine j_iinc1 (lv2 := [_, _, _, _, _, _]) dX0_minutesAlone_50 rfl (by decide) rfl rfl ?_
      refine j_goto (tgt := 13) dX0_minutesAlone_53 (by decide) ?_
      rw [nI_1]
      rw [show (1000000 : Int32) = nI 1000000 from rfl, nI_leI (by omega) (by have := hle2 (32 * p + 2 ^ g); omega)] at h38
      first
        | (rw [bst, if_neg (by rw [decide_eq_false (by omega)]; simp)] at ih; exact ih)
        | (rw [bit_set _ (bst_256 _ (by omega)) _ (by omega)]
           rw [bst, if_pos (by rw [decide_eq_true (by omega)])] at ih; exact ih)
end C0b
