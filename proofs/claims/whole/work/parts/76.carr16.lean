/-! the carrying: what it leaves in its minutes -/
section C0d
variable {G : GG} {ml : ML} {mr : MR} {dom : List Nat} {T : Nat} {t : TW} {v : Nat → Nat}
theorem c_soonestOf2 {mi : MI} {post : PT} {fw W lo : Nat → Nat} {tr be : Nat → Int32} (hX : XR mr) (hT : TT T) (hW : WT t) (hR : RX mi T t) (hG : GP mi t v) (hfl : ∀ i, fw i ≤ 1000000) (hf : ∀ i, i < 36 → mi (T + 4) i = nI (fw i)) (hle : le6 W) (hWm : ∀ i, i < 192 → mi 16 i = nI (W i)) (htr : ∀ i, i < 5 → mi 14 i = tr i) (hbe : ∀ i, i < 5 → mi 13 i = be i) (hlo : ∀ p, lo p < 32) (hlm : ∀ p, p < 6 → mi 15 p = nI (lo p)) (hp : ∀ m, offC m mi → (∀ i, i < 192 → m 16 i = nI (wAll t fw v W i)) → MS m (tg t v (wAll t fw v W) (bnd t v (wAll t fw v W)) (t 0 6) 0 0 (1000000, tr, be, lo)) → post (some (.int (nI (tg t v (wAll t fw v W) (bnd t v (wAll t fw v W)) (t 0 6) 0 0 (1000000, tr, be, lo)).1))) m ml mr dom) : CT G 11 0 0 yX0_soonestOf cX0_soonestOf 4 (some .int) [.ref 12, .ref T, .ref 8] mi ml mr dom post := by
  have w := hW.1
  refine enter 1 (by decide) rfl rfl (fun X => ?_)
  refine j_aload_n dX0_soonestOf_0 rfl rfl ?_
  refine j_aload_n dX0_soonestOf_1 rfl rfl ?_
  refine j_aload_n dX0_soonestOf_2 rfl rfl ?_
  refine cV0_31 (d1 := 10) rfl dX0_soonestOf_3 (by decide) (Nat.le_of_ble_eq_true rfl) ?_
  refine c_weighAll hX hT hW hR hG hfl hf hle hWm (fun m hm hs => ?_)
  refine j_aload_n dX0_soonestOf_6 rfl rfl ?_
  refine j_iconst (v := 0) dX0_soonestOf_7 (by decide) ?_
  refine pI0_28 rfl dX0_soonestOf_8 ?_
  refine j_iconst (v := 0) dX0_soonestOf_11 (by decide) ?_
  refine j_istore_n (lv2 := [_, _, _, _]) dX0_soonestOf_12 rfl (by decide) rfl rfl ?_
  skip
  have hle2 := wAll_le (t := t) (v := v) (fw := fw) hle
  generalize wAll t fw v W = W2 at hle2 hs hp
  have hbF : ∀ g b, b ≤ 1000000 → bndF t v W2 g b ≤ 1000000 := fun g b h => by
    have := qk_le W2 g (t 0 5)
    unfold bndF; split <;> omega
  refine fl (n := t 0 6) (s0 := 0) (I := fun b => b ≤ 1000000) (F := bndF t v W2) (H := fun g b => J cX0_soonestOf 4 yX0_soonestOf.cls yX0_soonestOf.name (some .int) 11 G X post 0 0 (up m 12 5 (nI b)) ml mr dom 13 [some (.ref 12), some (.ref T), some (.ref 8), some (.int (nI g))] []) (by omega) hbF (fun g hg b hbb ih => ?_) ?_
  · have hoB : offC (up m 12 5 (nI b)) mi := fun n a _ _ _ e => (up_off _ _ a).trans (hm n e)
    have hRb := RX.oC hT hoB hR
    have hGb := GP.oC hoB hG
    have hsb : ∀ i, i < 192 → up m 12 5 (nI b) 16 i = nI (W2 i) := fun i hi => by rw [up_off _ _ (by decide)]; exact hs i hi
    refine j_iload_n dX0_soonestOf_13 rfl rfl ?_
    refine j_aload_n dX0_soonestOf_14 rfl rfl ?_
    refine gI0_35 (kT0 hT) dX0_soonestOf_15 ?_
    refine j_icmp_ge (tgt := 56) dX0_soonestOf_18 (by decide) (fun h18 => absurd (by rw [hRb.goods] at h18; exact h18) (nI_ge hg (by omega))) (fun _ => ?_)
    refine j_aload_n dX0_soonestOf_21 rfl rfl ?_
    refine j_aload_n dX0_soonestOf_22 rfl rfl ?_
    refine j_iload_n dX0_soonestOf_23 rfl rfl ?_
    refine cS0_40 (d1 := 2) dX0_soonestOf_24 (by decide) (Nat.le_of_ble_eq_true rfl) ?_
    refine c_mustGo hX hT hW hRb hGb hg ?_
    refine j_if_eq (tgt := 50) dX0_soonestOf_27 (by decide) (fun h27 => ?_) (fun h27 => ?_)
    · refine j_iinc1 (lv2 := [_, _, _, _]) dX0_soonestOf_50 rfl (by decide) rfl rfl ?_
      refine j_goto (tgt := 13) dX0_soonestOf_53 (by decide) ?_
      rw [nI_1]
      first
        | (rw [bN_eq0] at h27; unfold bndF at ih; rw [if_neg (by rw [h27]; decide)] at ih; exact ih)
        | (rw [bN_eq0, Bool.not_eq_false] at h27; unfold bndF at ih; rw [if_pos h27] at ih
           rw [up_up]; exact ih)
    · refine j_aload_n dX0_soonestOf_30 rfl rfl ?_
      refine j_aload_n dX0_soonestOf_31 rfl rfl ?_
      refine gI0_28 rfl dX0_soonestOf_32 ?_
      rw [up_at]
      refine j_aload_n dX0_soonestOf_35 rfl rfl ?_
      refine j_aload_n dX0_soonestOf_36 rfl rfl ?_
      refine gI0_44 (kT0 hT) dX0_soonestOf_37 ?_
      refine j_iload_n dX0_soonestOf_40 rfl rfl ?_
      refine cV0_47 (d1 := 2) rfl dX0_soonestOf_41 (by decide) (Nat.le_of_ble_eq_true rfl) ?_
      rw [hRb.people]
      refine c_quickest hX (by omega) (by omega) hle2 hsb ?_
      refine j_mmax0_51 dX0_soonestOf_44 (by decide) (Nat.le_of_ble_eq_true rfl) ?_
      rw [imax_nI (by omega) (by have := qk_le W2 g (t 0 5); omega)]
      refine pI0_28 rfl dX0_soonestOf_47 ?_
      refine j_iinc1 (lv2 := [_, _, _, _]) dX0_soonestOf_50 rfl (by decide) rfl rfl ?_
      refine j_goto (tgt := 13) dX0_soonestOf_53 (by decide) ?_
      rw [nI_1]
      first
        | (rw [bN_eq0] at h27; unfold bndF at ih; rw [if_neg (by rw [h27]; decide)] at ih; exact ih)
        | (rw [bN_eq0, Bool.not_eq_false] at h27; unfold bndF at ih; rw [if_pos h27] at ih
           rw [up_up]; exact ih)
  · have hbb : fu (bndF t v W2) (t 0 6) 0 ≤ 1000000 := fu_inv (I := fun b => b ≤ 1000000) hbF _ (by omega)
    have hoB : offC (up m 12 5 (nI (fu (bndF t v W2) (t 0 6) 0))) mi := fun n a _ _ _ e => (up_off _ _ a).trans (hm n e)
    have hRb := RX.oC hT hoB hR
    have hoC : offC (up (up m 12 5 (nI (fu (bndF t v W2) (t 0 6) 0))) 12 4 (nI 1000000)) mi := fun n a b c d e => (up_off _ _ a).trans (hoB n a b c d e)
    refine j_iload_n dX0_soonestOf_13 rfl rfl ?_
    refine j_aload_n dX0_soonestOf_14 rfl rfl ?_
    refine gI0_35 (kT0 hT) dX0_soonestOf_15 ?_
    refine j_icmp_ge (tgt := 56) dX0_soonestOf_18 (by decide) (fun _ => ?_) (fun h18 => absurd (by rw [hRb.goods]; exact nI_le (Nat.le_refl _) (by omega)) h18)
    refine j_aload_n dX0_soonestOf_56 rfl rfl ?_
    refine j_ldc wd1019 dX0_soonestOf_57 ?_
    refine pI0_24 rfl dX0_soonestOf_59 ?_
    refine j_aload_n dX0_soonestOf_62 rfl rfl ?_
    refine j_aload_n dX0_soonestOf_63 rfl rfl ?_
    refine j_aload_n dX0_soonestOf_64 rfl rfl ?_
    refine j_iconst (v := 0) dX0_soonestOf_65 (by decide) ?_
    refine j_iconst (v := 0) dX0_soonestOf_66 (by decide) ?_
    refine cV0_57 (d1 := 8) rfl dX0_soonestOf_67 (by decide) (Nat.le_of_ble_eq_true rfl) ?_
    rw [show (0 : Int32) = nI 0 from rfl, show (1000000 : Int32) = nI 1000000 from rfl]
    refine c_tryGood hX hT hW hle2 hbb (t 0 6) 0 0 8 (1000000, tr, be, lo) _ _ (RX.oC hT hoC hR) (GP.oC hoC hG) (by omega) (by omega) (by omega) (fun i hi => by rw [up_off _ _ (by decide), up_off _ _ (by decide)]; exact hs i hi) (by rw [up_ne _ _ (by decide), up_at]) ⟨Nat.le_refl _, hlo⟩ ⟨by rw [up_at], fun i hi => ?_, fun i hi => ?_, fun p hp => ?_⟩ (fun m2 hm2 hS2 => ?_)
    · rw [up_off _ _ (by decide), up_off _ _ (by decide), hm 14 (by decide)]; exact htr i hi
    · rw [up_off _ _ (by decide), up_off _ _ (by decide), hm 13 (by decide)]; exact hbe i hi
    · rw [up_off _ _ (by decide), up_off _ _ (by decide), hm 15 (by decide)]; exact hlm p hp
    refine j_aload_n dX0_soonestOf_70 rfl rfl ?_
    refine gI0_24 rfl dX0_soonestOf_71 ?_
    rw [hS2.1]
    refine j_iret rfl dX0_soonestOf_74 ?_
    refine hp m2 (fun n a b c d e => ?_) (fun i hi => ?_) hS2
    · rw [hm2.1 n a b c d, up_off _ _ a, up_off _ _ a]; exact hm n e
    · rw [hm2.1 16 (by decide) (by decide) (by decide) (by decide), up_off _ _ (by decide), up_off _ _ (by decide)]; exact hs i hi
end C0d
section C11d
variable {G : GG} {post : PT} {mi : MI} {ml : ML} {mr : MR} {dom : List Nat} {T : Nat} {t : TW} {v : Nat → Nat}
theorem cx_carried2  (hX : XR mr) (hT : TT T) (hTn : mr 0 2 = some T) (hW : WT t) (hR : RX mi T t) (h0 : mi T 0 = 1) {W : Nat → Nat} (hG : GP mi t v) (h3 : 0 < t 0 3) (hle : le6 W) (hWm : ∀ i, i < 192 → mi 16 i = nI (W i)) {lo : Nat → Nat} {tr be : Nat → Int32} (htr : ∀ i, i < 5 → mi 14 i = tr i) (hbe : ∀ i, i < 5 → mi 13 i = be i) (hlo : ∀ p, lo p < 32) (hlm : ∀ p, p < 6 → mi 15 p = nI (lo p)) (hp : ∀ m, offC m mi → (∀ i, i < 192 → m 16 i = nI (wAll t (fun i => cf (t 3 i)) v W i)) → MS m (tg t v (wAll t (fun i => cf (t 3 i)) v W) (bnd t v (wAll t (fun i => cf (t 3 i)) v W)) (t 0 6) 0 0 (1000000, tr, be, lo)) → post (some (.int (orN (tg t v (wAll t (fun i => cf (t 3 i)) v W) (bnd t v (wAll t (fun i => cf (t 3 i)) v W)) (t 0 6) 0 0 (1000000, tr, be, lo)).1))) (up m 0 9 0) ml mr dom) : CT G 12 0 0 yX11_carried cX11_carried 2 (some .int) [.ref 0] mi ml mr dom post := by
  have w := hW.1
  have hok := tg_ok (t := t) (v := v) (W := wAll t (fun i => cf (t 3 i)) v W) (bd := bnd t v (wAll t (fun i => cf (t 3 i)) v W)) (t 0 6) 0 0 (1000000, tr, be, lo) (by omega) (by omega) ⟨Nat.le_refl _, hlo⟩
  refine enter 1 (by decide) rfl rfl (fun X => ?_)
  refine j_aload_n dX11_carried_0 rfl rfl ?_
  refine gR11_20 rfl dX11_carried_1 hTn ?_
  refine gI11_178 (kT0 hT) dX11_carried_4 ?_
  refine j_if_ne (tgt := 16) dX11_carried_7 (by decide) (fun _ => ?_) (fun h7 => absurd h7 (by rw [h0]; decide))
  refine j_aload_n dX11_carried_16 rfl rfl ?_
  refine gR11_44 rfl dX11_carried_17 (x_carrying hX) ?_
  refine j_aload_n dX11_carried_20 rfl rfl ?_
  refine gR11_20 rfl dX11_carried_21 hTn ?_
  refine j_aload_n dX11_carried_24 rfl rfl ?_
  refine gR11_37 rfl dX11_carried_25 (x_present hX) ?_
  refine cV11_254 (d1 := 11) rfl dX11_carried_28 (by decide) (Nat.le_of_ble_eq_true rfl) ?_
  refine c_soonestOf2 (fw := (fun i => cf (t 3 i))) hX hT hW hR hG (fun i => cf_le _) (fun i hi => hR.few h3 hi) hle hWm htr hbe hlo hlm (fun m hm h16 hS => ?_)
  generalize (tg t v (wAll t (fun i => cf (t 3 i)) v W) (bnd t v (wAll t (fun i => cf (t 3 i)) v W)) (t 0 6) 0 0 (1000000, tr, be, lo)) = S at hok hS hp ⊢
  refine j_istore_n (lv2 := [_, _]) dX11_carried_31 rfl (by decide) rfl rfl ?_
  refine j_aload_n dX11_carried_32 rfl rfl ?_
  refine j_iload_n dX11_carried_33 rfl rfl ?_
  refine j_ldc wd994 dX11_carried_34 ?_
  refine j_icmp_ge (tgt := 43) dX11_carried_36 (by decide) (fun h36 => ?_) (fun h36 => ?_)
  · refine j_bipush (v := -2) dX11_carried_43 (by decide) ?_
    refine cV11_105 (d1 := 1) rfl dX11_carried_45 (by decide) (Nat.le_of_ble_eq_true rfl) ?_
    refine c_answer ?_
    refine j_iret rfl dX11_carried_48 ?_
    have hp := hp m hm h16 hS
    have h1 := hok.1
    rw [show (1000000 : Int32) = nI 1000000 from rfl, nI_leI (by omega) (by omega)] at h36
    unfold orN at hp
    first
      | (rw [if_neg (by omega)] at hp; exact hp)
      | (rw [if_pos (by omega)] at hp; exact hp)
  · refine j_iload_n dX11_carried_39 rfl rfl ?_
    refine j_goto (tgt := 45) dX11_carried_40 (by decide) ?_
    refine cV11_105 (d1 := 1) rfl dX11_carried_45 (by decide) (Nat.le_of_ble_eq_true rfl) ?_
    refine c_answer ?_
    refine j_iret rfl dX11_carried_48 ?_
    have hp := hp m hm h16 hS
    have h1 := hok.1
    rw [show (1000000 : Int32) = nI 1000000 from rfl, nI_leI (by omega) (by omega)] at h36
    unfold orN at hp
    first
      | (rw [if_neg (by omega)] at hp; exact hp)
      | (rw [if_pos (by omega)] at hp; exact hp)
theorem cx_carrierE2 {g : Nat} (hX : XR mr) (hT : TT T) (hTn : mr 0 2 = some T) (hW : WT t) (hR : RX mi T t) (h1 : g < t 0 6) {W : Nat → Nat} (hG : GP mi t v) (h3 : 0 < t 0 3) (hle : le6 W) (hWm : ∀ i, i < 192 → mi 16 i = nI (W i)) {lo : Nat → Nat} {tr be : Nat → Int32} (htr : ∀ i, i < 5 → mi 14 i = tr i) (hbe : ∀ i, i < 5 → mi 13 i = be i) (hlo : ∀ p, lo p < 32) (hlm : ∀ p, p < 6 → mi 15 p = nI (lo p)) (hfar : 1000000 ≤ (tg t v (wAll t (fun i => cf (t 3 i)) v W) (bnd t v (wAll t (fun i => cf (t 3 i)) v W)) (t 0 6) 0 0 (1000000, tr, be, lo)).1) (hp : ∀ m, offC m mi → (∀ i, i < 192 → m 16 i = nI (wAll t (fun i => cf (t 3 i)) v W i)) → MS m (tg t v (wAll t (fun i => cf (t 3 i)) v W) (bnd t v (wAll t (fun i => cf (t 3 i)) v W)) (t 0 6) 0 0 (1000000, tr, be, lo)) → post (some (.int (-1))) (up m 0 9 6) ml mr dom) : CT G 12 0 0 yX11_carrier cX11_carrier 2 (some .int) [.ref 0, .int (nI g)] mi ml mr dom post := by
  have w := hW.1
  have hok := tg_ok (t := t) (v := v) (W := wAll t (fun i => cf (t 3 i)) v W) (bd := bnd t v (wAll t (fun i => cf (t 3 i)) v W)) (t 0 6) 0 0 (1000000, tr, be, lo) (by omega) (by omega) ⟨Nat.le_refl _, hlo⟩
  refine enter 0 (by decide) rfl rfl (fun X => ?_)
  refine j_aload_n dX11_carrier_0 rfl rfl ?_
  refine j_iload_n dX11_carrier_1 rfl rfl ?_
  refine cV11_157 (d1 := 1) rfl dX11_carrier_2 (by decide) (Nat.le_of_ble_eq_true rfl) ?_
  refine c_isGoodG hX hT hTn hW hR h1 ?_
  refine j_if_ne (tgt := 14) dX11_carrier_5 (by decide) (fun _ => ?_) (fun h5 => absurd h5 (by decide))
  refine j_aload_n dX11_carrier_14 rfl rfl ?_
  refine gR11_44 rfl dX11_carrier_15 (x_carrying hX) ?_
  refine j_aload_n dX11_carrier_18 rfl rfl ?_
  refine gR11_20 rfl dX11_carrier_19 hTn ?_
  refine j_aload_n dX11_carrier_22 rfl rfl ?_
  refine gR11_37 rfl dX11_carrier_23 (x_present hX) ?_
  refine cV11_254 (d1 := 11) rfl dX11_carrier_26 (by decide) (Nat.le_of_ble_eq_true rfl) ?_
  refine c_soonestOf2 (fw := (fun i => cf (t 3 i))) hX hT hW hR hG (fun i => cf_le _) (fun i hi => hR.few h3 hi) hle hWm htr hbe hlo hlm (fun m hm h16 hS => ?_)
  refine j_ldc wd994 dX11_carrier_29 ?_
  refine j_icmp_lt (tgt := 41) dX11_carrier_31 (by decide) (fun h31 => absurd h31 (nI_nlt (b := 1000000) hfar (by have := hok.1; omega))) (fun _ => ?_)
  refine j_aload_n dX11_carrier_34 rfl rfl ?_
  refine j_bipush (v := 6) dX11_carrier_35 (by decide) ?_
  refine cV11_75 (d1 := 1) rfl dX11_carrier_37 (by decide) (Nat.le_of_ble_eq_true rfl) ?_
  refine c_refuse ?_
  refine j_iret rfl dX11_carrier_40 ?_
  exact hp m hm h16 hS
theorem cx_carrier2 {g : Nat} (hX : XR mr) (hT : TT T) (hTn : mr 0 2 = some T) (hW : WT t) (hR : RX mi T t) (h1 : g < t 0 6) {W : Nat → Nat} (hG : GP mi t v) (h3 : 0 < t 0 3) (hle : le6 W) (hWm : ∀ i, i < 192 → mi 16 i = nI (W i)) {lo : Nat → Nat} {tr be : Nat → Int32} (htr : ∀ i, i < 5 → mi 14 i = tr i) (hbe : ∀ i, i < 5 → mi 13 i = be i) (hlo : ∀ p, lo p < 32) (hlm : ∀ p, p < 6 → mi 15 p = nI (lo p)) (hfar : (tg t v (wAll t (fun i => cf (t 3 i)) v W) (bnd t v (wAll t (fun i => cf (t 3 i)) v W)) (t 0 6) 0 0 (1000000, tr, be, lo)).1 < 1000000) (hp : ∀ m, offC m mi → (∀ i, i < 192 → m 16 i = nI (wAll t (fun i => cf (t 3 i)) v W i)) → MS m (tg t v (wAll t (fun i => cf (t 3 i)) v W) (bnd t v (wAll t (fun i => cf (t 3 i)) v W)) (t 0 6) 0 0 (1000000, tr, be, lo)) → post (some (.int ((tg t v (wAll t (fun i => cf (t 3 i)) v W) (bnd t v (wAll t (fun i => cf (t 3 i)) v W)) (t 0 6) 0 0 (1000000, tr, be, lo)).2.2.1 g))) (up m 0 9 0) ml mr dom) : CT G 12 0 0 yX11_carrier cX11_carrier 2 (some .int) [.ref 0, .int (nI g)] mi ml mr dom post := by
  have w := hW.1
  have hok := tg_ok (t := t) (v := v) (W := wAll t (fun i => cf (t 3 i)) v W) (bd := bnd t v (wAll t (fun i => cf (t 3 i)) v W)) (t 0 6) 0 0 (1000000, tr, be, lo) (by omega) (by omega) ⟨Nat.le_refl _, hlo⟩
  refine enter 0 (by decide) rfl rfl (fun X => ?_)
  refine j_aload_n dX11_carrier_0 rfl rfl ?_
  refine j_iload_n dX11_carrier_1 rfl rfl ?_
  refine cV11_157 (d1 := 1) rfl dX11_carrier_2 (by decide) (Nat.le_of_ble_eq_true rfl) ?_
  refine c_isGoodG hX hT hTn hW hR h1 ?_
  refine j_if_ne (tgt := 14) dX11_carrier_5 (by decide) (fun _ => ?_) (fun h5 => absurd h5 (by decide))
  refine j_aload_n dX11_carrier_14 rfl rfl ?_
  refine gR11_44 rfl dX11_carrier_15 (x_carrying hX) ?_
  refine j_aload_n dX11_carrier_18 rfl rfl ?_
  refine gR11_20 rfl dX11_carrier_19 hTn ?_
  refine j_aload_n dX11_carrier_22 rfl rfl ?_
  refine gR11_37 rfl dX11_carrier_23 (x_present hX) ?_
  refine cV11_254 (d1 := 11) rfl dX11_carrier_26 (by decide) (Nat.le_of_ble_eq_true rfl) ?_
  refine c_soonestOf2 (fw := (fun i => cf (t 3 i))) hX hT hW hR hG (fun i => cf_le _) (fun i hi => hR.few h3 hi) hle hWm htr hbe hlo hlm (fun m hm h16 hS => ?_)
  refine j_ldc wd994 dX11_carrier_29 ?_
  refine j_icmp_lt (tgt := 41) dX11_carrier_31 (by decide) (fun _ => ?_) (fun h31 => absurd (nI_lt (b := 1000000) hfar (by decide)) h31)
  refine j_aload_n dX11_carrier_41 rfl rfl ?_
  refine j_aload_n dX11_carrier_42 rfl rfl ?_
  refine gR11_44 rfl dX11_carrier_43 (x_carrying hX) ?_
  refine gR11_258 rfl dX11_carrier_46 (x_best hX) ?_
  refine j_iload_n dX11_carrier_49 rfl rfl ?_
  refine j_iald rfl (inT (a := 13) (N := 5) rfl (show g < 5 by omega) (by omega)) dX11_carrier_50 ?_
  rw [nI_clamp (by omega), hS.2.2.1 g (by omega)]
  refine cV11_105 (d1 := 1) rfl dX11_carrier_51 (by decide) (Nat.le_of_ble_eq_true rfl) ?_
  refine c_answer ?_
  refine j_iret rfl dX11_carrier_54 ?_
  exact hp m hm h16 hS
end C11d
