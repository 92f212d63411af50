/-! the reference: carried, carrier, alone, stuck; what the class answers there -/
def stB (t : TW) (v : Nat → Nat) (g : Nat) : Nat → Bool
  | 0 => mgo t v g
  | i + 1 => stB t v g i && !canC t v i g
def alS (t : TW) (v : Nat → Nat) (p n : Nat) : Nat := bst (fun g => mgo t v g && canC t v p g) n
section CRX
variable {t : TW} {v : Nat → Nat} {p : Nat}
theorem alS_t {g : Nat} (h : (mgo t v g && canC t v p g) = true) : alS t v p (g + 1) = alS t v p g ||| 2 ^ g := if_pos h
theorem alS_f {g : Nat} (h : ¬ (mgo t v g && canC t v p g) = true) : alS t v p (g + 1) = alS t v p g := if_neg h
theorem alS_32 (p : Nat) {n : Nat} (hn : n ≤ 5) : alS t v p n < 32 := Nat.lt_of_lt_of_le (bst_lt _ _) (Nat.pow_le_pow_right (n := 2) (by decide) hn)
theorem RC_m (h5 : t 0 6 ≤ 5) (h32 : ∀ k a S s, RC t v p k a S s → S < 32) : ∀ k a S s, RC t v p k a S s → ∀ x, x < 5 → S.testBit x = true → x < t 0 6 ∧ mgo t v x = true
  | 0, a, S, s, h, x, _, hb => by obtain ⟨-, rfl, -⟩ := h; simp at hb
  | k + 1, a, S, s, h, x, hx, hb => by
    obtain ⟨g, a', ld', s', h1, h2, h3, rfl, rfl, rfl⟩ := h
    rw [or_b5 ld' (h32 _ _ _ _ h1) g (by omega) x hx, Bool.or_eq_true, decide_eq_true_eq] at hb
    rcases hb with hb | hb
    · exact RC_m h5 h32 k a' ld' s' h1 x hx hb
    · subst hb; exact ⟨h2, (coK_t h3).2.1⟩
theorem w_1 (hW : WT t) (hD : DS 99999 (t 2) (t 3)) (hv : ∀ g, g < t 0 6 → v (6 + g) < t 0 3) (hp : p < t 0 5) (hc : t 4 p = 1) {W : Nat → Nat} {g : Nat} (hg : g < t 0 6) : decide (wgh t (FWc t) v p W (32 * p + 2 ^ g) < 1000000) = (mgo t v g && canC t v p g) := by
  have h5 := hW.1.2.2.2.2.2.2.1
  have b1 : ∀ x, (2 ^ g).testBit x = true → x = g := fun x hx => by rw [Nat.testBit_two_pow, decide_eq_true_eq] at hx; exact hx.symm
  have h32 : 2 ^ g < 32 := (Nat.pow_lt_pow_right (show 1 < 2 by decide) (show g < 5 by omega) : 2 ^ g < 2 ^ 5)
  by_cases hm : mgo t v g = true
  · have hS : okM t v (2 ^ g) := ⟨h32, fun x hx => by rw [b1 x hx]; exact ⟨hg, hm⟩⟩
    rw [W_tk hW hD hv hp hS (Or.inr hc), cf_fin, tk_1 hW hD hv hp hg hm, hm, Bool.true_and]
  · rw [Bool.not_eq_true] at hm
    rw [hm, Bool.false_and]
    refine decide_eq_false (fun q => ?_)
    obtain ⟨k, a, h⟩ := (wgh_W hW hD hv hp hc (W := W) h32).1 q
    have := (RC_m h5 (fun k a S s h => (RC_ok hW hD hv hp k a S s h).2.1) k a _ _ h g (by omega) (by rw [Nat.testBit_two_pow]; exact decide_eq_true rfl)).2
    rw [hm] at this; cases this
theorem bst_cg0 {P Q : Nat → Bool} {n : Nat} (h : ∀ x, x < n → P x = Q x) : bst P n = bst Q n := bst_cg (fun x => by
  by_cases q : x < n
  · rw [h x q]
  · rw [decide_eq_false q]; rfl)
theorem alone_eq (hW : WT t) (hD : DS 99999 (t 2) (t 3)) (hv : ∀ g, g < t 0 6 → v (6 + g) < t 0 3) (hp : p < t 0 5) (hc : t 4 p = 1) {W : Nat → Nat} : wgh t (FWc t) v p W (32 * p + bst (fun g => decide (wgh t (FWc t) v p W (32 * p + 2 ^ g) < 1000000)) (t 0 6)) = tk t v p (alS t v p (t 0 6)) := by
  have h5 := hW.1.2.2.2.2.2.2.1
  rw [bst_cg0 (Q := fun g => mgo t v g && canC t v p g) (fun x hx => w_1 hW hD hv hp hc hx)]
  show wgh t (FWc t) v p W (32 * p + alS t v p (t 0 6)) = _
  have hb : ∀ g, (alS t v p (t 0 6)).testBit g = true → g < t 0 6 ∧ mgo t v g = true ∧ canC t v p g = true := fun g h => by
    unfold alS at h
    rw [bst_bit, Bool.and_eq_true, Bool.and_eq_true, decide_eq_true_eq] at h
    exact h
  have hS : okM t v (alS t v p (t 0 6)) := ⟨alS_32 p h5, fun g h => ⟨(hb g h).1, (hb g h).2.1⟩⟩
  rw [W_tk hW hD hv hp hS (Or.inr hc)]
  obtain ⟨k, a, s, h⟩ := RC_all hW hD hv hp _ _ (Nat.le_refl _) hS (fun g h => (hb g h).2.2)
  have := tk_com hW hD hv hp h
  have := (RC_ok hW hD hv hp k a _ s h).2.2.2.2.1
  have := RC_k hW hD hv hp h
  exact cf_lt (by omega)
theorem stB_t {g : Nat} : ∀ n, stB t v g n = true ↔ mgo t v g = true ∧ ∀ p, p < n → canC t v p g = false
  | 0 => ⟨fun h => ⟨h, fun p hp => absurd hp (Nat.not_lt_zero _)⟩, fun h => h.1⟩
  | n + 1 => by
    rw [stB, Bool.and_eq_true, stB_t n]
    constructor
    · rintro ⟨⟨h1, h2⟩, h3⟩
      refine ⟨h1, fun p hp => ?_⟩
      by_cases e : p = n
      · subst e; cases q : canC t v p g; rfl; rw [q] at h3; cases h3
      · exact h2 p (by omega)
    · rintro ⟨h1, h2⟩
      exact ⟨⟨h1, fun p hp => h2 p (by omega)⟩, by rw [h2 n (by omega)]; rfl⟩
theorem qk_far {W : Nat → Nat} {g : Nat} : ∀ n, 1000000 ≤ qk W g n ↔ ∀ p, p < n → 1000000 ≤ W (32 * p + 2 ^ g)
  | 0 => ⟨fun _ p hp => absurd hp (Nat.not_lt_zero _), fun _ => Nat.le_refl _⟩
  | n + 1 => by
    show 1000000 ≤ min (qk W g n) (W (32 * n + 2 ^ g)) ↔ _
    rw [Nat.le_min, qk_far n]
    constructor
    · rintro ⟨h1, h2⟩ p hp
      by_cases e : p = n
      · subst e; exact h2
      · exact h1 p (by omega)
    · intro h; exact ⟨fun p hp => h p (by omega), h n (by omega)⟩
theorem stuck_eq (hW : WT t) (hD : DS 99999 (t 2) (t 3)) (hv : ∀ g, g < t 0 6 → v (6 + g) < t 0 3) {W : Nat → Nat} : bst (fun g => mgo t v g && decide (1000000 ≤ qk (wAll t (FWc t) v W) g (t 0 5))) (t 0 6) = bst (fun g => stB t v g (t 0 5)) (t 0 6) := by
  have h5 := hW.1.2.2.2.2.2.2.1
  refine bst_cg0 (fun g hg => ?_)
  by_cases hm : mgo t v g = true
  · rw [hm, Bool.true_and]
    have b1 : ∀ x, (2 ^ g).testBit x = true → x = g := fun x hx => by rw [Nat.testBit_two_pow, decide_eq_true_eq] at hx; exact hx.symm
    have h32 : 2 ^ g < 32 := (Nat.pow_lt_pow_right (show 1 < 2 by decide) (show g < 5 by omega) : 2 ^ g < 2 ^ 5)
    have hS : okM t v (2 ^ g) := ⟨h32, fun x hx => by rw [b1 x hx]; exact ⟨hg, hm⟩⟩
    have e : ∀ p, p < t 0 5 → (1000000 ≤ wAll t (FWc t) v W (32 * p + 2 ^ g) ↔ canC t v p g = false) := fun p hp => by
      rw [WA_tk hW hD hv hp hS (Or.inl (by have := Nat.two_pow_pos g; omega))]
      have q := cf_fin (tk t v p (2 ^ g))
      rw [tk_1 hW hD hv hp hg hm] at q
      rw [← q, decide_eq_false_iff_not, Nat.not_lt]
    cases hst : stB t v g (t 0 5)
    · refine decide_eq_false (fun q => ?_)
      rw [qk_far] at q
      have := (stB_t (t := t) (v := v) (g := g) (t 0 5)).mpr ⟨hm, fun p hp => (e p hp).mp (q p hp)⟩
      rw [hst] at this; cases this
    · refine decide_eq_true ?_
      rw [qk_far]
      have := (stB_t (t 0 5)).mp hst
      exact fun p hp => (e p hp).mpr (this.2 p hp)
  · rw [Bool.not_eq_true] at hm
    rw [hm, Bool.false_and]
    cases hst : stB t v g (t 0 5)
    · rfl
    · have := ((stB_t (t 0 5)).mp hst).1; rw [hm] at this; cases this
end CRX
section M13e
variable {G : GG} {post : PT} {mi : MI} {ml : ML} {mr : MR} {dom : List Nat} {M : Nat} {t : TW} {v : Nat → Nat}
theorem mx_carried  (hX : XM mr) (hM : MM M) (hY : XT mr M) (hTn : mr 1000 3 = some M) (hg : GB t) (hW : WT t) (hR : RM mi M t) (hV : VM mi t v) (hP : 0 < t 0 5) (hp : ∀ m : MI, (∀ z, z ≠ 1000 → z ≠ 1005 → z ≠ 1006 → z ≠ 1007 → z ≠ 1008 → z ≠ 1009 → m z = mi z) → (∀ j, j ≠ 0 → j ≠ 26 → m 1000 j = mi 1000 j) → m 1000 0 = 0 → post (some (.int (orN (cf (ENs t v).1)))) (up (up m 1000 1 0) 1000 2 (-1)) ml mr dom) : CT G 6 0 0 yX13_carried cX13_carried 1 (some .int) [.ref 1000] mi ml mr dom post := by
  have w := hW.1
  have hge := hM.ge
  refine enter 0 (by decide) rfl rfl (fun X => ?_)
  refine j_aload_n dX13_carried_0 rfl rfl ?_
  refine j_iconst (v := nI 0) dX13_carried_1 (by decide) ?_
  refine pI13_51 rfl dX13_carried_2 ?_
  obtain ⟨m1, e1⟩ : ∃ m, m = up mi 1000 0 (nI 0) := ⟨_, rfl⟩
  rw [← e1]
  have hR1 : RM m1 M t := RM_lo hM (fun n hn => by rw [e1, up_off _ _ (by omega)]) hR
  have hV1 : VM m1 t v := VM_off (by rw [e1, up_off _ _ (by decide)]) hV
  refine j_aload_n dX13_carried_5 rfl rfl ?_
  refine gR13_335 rfl dX13_carried_6 hTn ?_
  refine j_ifnonnull (tgt := 18) dX13_carried_9 (by decide) ?_
  refine j_aload_n dX13_carried_18 rfl rfl ?_
  refine cV13_435 (d1 := 5) rfl dX13_carried_19 (by decide) (Nat.le_of_ble_eq_true rfl) ?_
  refine m_carriesA hX hM hY hTn hg hW hR1 hV1 hP (fun m hm hJ hc hs hl => ?_)
  have hc : m 1000 26 = nI (ENs t v).1 := hc
  have hl : (ENs t v).1 ≤ 99999 := hl
  have hs : ((ENs t v).1 = 99999) ∨ ∀ g, g < 5 → m 1008 g = nI ((ENs t v).2 g) := hs
  refine j_aload_n dX13_carried_22 rfl rfl ?_
  refine j_aload_n dX13_carried_23 rfl rfl ?_
  refine gI13_423 rfl dX13_carried_24 ?_
  rw [hc]
  refine j_ldcw wd1913 dX13_carried_27 ?_
  rw [show (99999 : Int32) = nI 99999 from rfl]
  refine j_icmp_lt (tgt := 38) dX13_carried_30 (by decide) (fun h30 => ?_) (fun h30 => ?_)
  all_goals rw [nI_ltI (by have := hl; omega) (by omega)] at h30
  · refine j_aload_n dX13_carried_38 rfl rfl ?_
    refine gI13_423 rfl dX13_carried_39 ?_
    rw [hc]
    refine cV13_61 (d1 := 1) rfl dX13_carried_42 (by decide) (Nat.le_of_ble_eq_true rfl) ?_
    refine m_fair ?_
    refine j_iret rfl dX13_carried_45 ?_
    unfold orN at hp
    have q := hp m (fun z y0 y5 y6 y7 y8 y9 => by rw [hm z y0 y5 y6 y7 y8 y9, e1, up_off _ _ y0]) (fun j j0 j1 => by rw [hJ j j1, e1, up_ne _ _ j0]) (by rw [hJ 0 (by decide), e1]; rfl)
    first
      | (rw [cf_lt (show (ENs t v).1 < 99999 by omega), if_pos (show (ENs t v).1 < 1000000 by omega)] at q; exact q)
      | (rw [cf_ge (show ¬ (ENs t v).1 < 99999 by omega), if_neg (by decide)] at q; exact q)
  · refine j_bipush (v := -2) dX13_carried_33 (by decide) ?_
    refine j_goto (tgt := 42) dX13_carried_35 (by decide) ?_
    refine cV13_61 (d1 := 1) rfl dX13_carried_42 (by decide) (Nat.le_of_ble_eq_true rfl) ?_
    refine m_fair ?_
    refine j_iret rfl dX13_carried_45 ?_
    unfold orN at hp
    have q := hp m (fun z y0 y5 y6 y7 y8 y9 => by rw [hm z y0 y5 y6 y7 y8 y9, e1, up_off _ _ y0]) (fun j j0 j1 => by rw [hJ j j1, e1, up_ne _ _ j0]) (by rw [hJ 0 (by decide), e1]; rfl)
    first
      | (rw [cf_lt (show (ENs t v).1 < 99999 by omega), if_pos (show (ENs t v).1 < 1000000 by omega)] at q; exact q)
      | (rw [cf_ge (show ¬ (ENs t v).1 < 99999 by omega), if_neg (by decide)] at q; exact q)
theorem mx_carrier {g : Nat} (hX : XM mr) (hM : MM M) (hY : XT mr M) (hTn : mr 1000 3 = some M) (hg : GB t) (hW : WT t) (hR : RM mi M t) (hV : VM mi t v) (hP : 0 < t 0 5) (h1 : g < t 0 6) (hp : (99999 ≤ (ENs t v).1 → ∀ m : MI, (∀ z, z ≠ 1000 → z ≠ 1005 → z ≠ 1006 → z ≠ 1007 → z ≠ 1008 → z ≠ 1009 → m z = mi z) → (∀ j, j ≠ 0 → j ≠ 26 → m 1000 j = mi 1000 j) → m 1000 0 = 0 → post (some (.int (-1))) (up (up m 1000 1 (nI 6)) 1000 2 (-1)) ml mr dom) ∧ ((ENs t v).1 < 99999 → ∀ m : MI, (∀ z, z ≠ 1000 → z ≠ 1005 → z ≠ 1006 → z ≠ 1007 → z ≠ 1008 → z ≠ 1009 → m z = mi z) → (∀ j, j ≠ 0 → j ≠ 26 → m 1000 j = mi 1000 j) → m 1000 0 = 0 → post (some (.int (if mgo t v g = true then nI ((ENs t v).2 g) else -2))) (up (up m 1000 1 0) 1000 2 (-1)) ml mr dom)) : CT G 6 0 0 yX13_carrier cX13_carrier 2 (some .int) [.ref 1000, .int (nI g)] mi ml mr dom post := by
  have w := hW.1
  have hge := hM.ge
  refine enter 0 (by decide) rfl rfl (fun X => ?_)
  refine j_aload_n dX13_carrier_0 rfl rfl ?_
  refine j_iconst (v := nI 0) dX13_carrier_1 (by decide) ?_
  refine pI13_51 rfl dX13_carrier_2 ?_
  obtain ⟨m1, e1⟩ : ∃ m, m = up mi 1000 0 (nI 0) := ⟨_, rfl⟩
  rw [← e1]
  have hR1 : RM m1 M t := RM_lo hM (fun n hn => by rw [e1, up_off _ _ (by omega)]) hR
  have hV1 : VM m1 t v := VM_off (by rw [e1, up_off _ _ (by decide)]) hV
  refine j_aload_n dX13_carrier_5 rfl rfl ?_
  refine j_iload_n dX13_carrier_6 rfl rfl ?_
  refine cV13_361 (d1 := 1) rfl dX13_carrier_7 (by decide) (Nat.le_of_ble_eq_true rfl) ?_
  refine m_isGoodG hX hM hY hTn hg hW hR1 (by omega) ?_
  refine j_if_ne (tgt := 19) dX13_carrier_10 (by decide) (fun h10 => ?_) (fun h10 => absurd h10 (by decide))
  refine j_aload_n dX13_carrier_19 rfl rfl ?_
  refine cV13_435 (d1 := 5) rfl dX13_carrier_20 (by decide) (Nat.le_of_ble_eq_true rfl) ?_
  refine m_carriesA hX hM hY hTn hg hW hR1 hV1 hP (fun m hm hJ hc hs hl => ?_)
  have hc : m 1000 26 = nI (ENs t v).1 := hc
  have hl : (ENs t v).1 ≤ 99999 := hl
  have hs : ((ENs t v).1 = 99999) ∨ ∀ g, g < 5 → m 1008 g = nI ((ENs t v).2 g) := hs
  refine j_aload_n dX13_carrier_23 rfl rfl ?_
  refine gI13_423 rfl dX13_carrier_24 ?_
  rw [hc]
  refine j_ldcw wd1913 dX13_carrier_27 ?_
  rw [show (99999 : Int32) = nI 99999 from rfl]
  refine j_icmp_lt (tgt := 40) dX13_carrier_30 (by decide) (fun h30 => ?_) (fun h30 => ?_)
  all_goals rw [nI_ltI (by have := hl; omega) (by omega)] at h30
  · have hRm : RM m M t := RM_lo hM (fun n hn => by rw [hm n (by omega) (by omega) (by omega) (by omega) (by omega) (by omega)]) hR1
    have hVm : VM m t v := VM_off (by rw [hm 1002 (by decide) (by decide) (by decide) (by decide) (by decide) (by decide)]) hV1
    refine j_aload_n dX13_carrier_40 rfl rfl ?_
    refine j_aload_n dX13_carrier_41 rfl rfl ?_
    refine j_iload_n dX13_carrier_42 rfl rfl ?_
    refine cV13_432 (d1 := 1) rfl dX13_carrier_43 (by decide) (Nat.le_of_ble_eq_true rfl) ?_
    refine m_mustGo hX hM hY hTn hg hW hRm hVm (by omega) ?_
    refine j_if_eq (tgt := 58) dX13_carrier_46 (by decide) (fun h46 => ?_) (fun h46 => ?_)
    all_goals rw [bN_eq0] at h46
    · refine j_bipush (v := -2) dX13_carrier_58 (by decide) ?_
      refine cV13_61 (d1 := 1) rfl dX13_carrier_60 (by decide) (Nat.le_of_ble_eq_true rfl) ?_
      refine m_fair ?_
      refine j_iret rfl dX13_carrier_63 ?_
      have q := hp.2 (by omega) m (fun z y0 y5 y6 y7 y8 y9 => by rw [hm z y0 y5 y6 y7 y8 y9, e1, up_off _ _ y0]) (fun j j0 j1 => by rw [hJ j j1, e1, up_ne _ _ j0]) (by rw [hJ 0 (by decide), e1]; rfl)
      first
        | (rw [if_pos (Bool.not_eq_false _ |>.mp h46)] at q; exact q)
        | (rw [if_neg (by rw [h46]; decide)] at q; exact q)
    · refine j_aload_n dX13_carrier_49 rfl rfl ?_
      refine gR13_36 rfl dX13_carrier_50 (x1008 hX) ?_
      refine j_iload_n dX13_carrier_53 rfl rfl ?_
      refine j_iald rfl (inT (show ln 1008 = 5 from rfl) (by show g < 5; omega) (by decide)) dX13_carrier_54 ?_
      rw [nI_clamp (by omega), (hs.resolve_left (by omega)) g (by omega)]
      refine j_goto (tgt := 60) dX13_carrier_55 (by decide) ?_
      refine cV13_61 (d1 := 1) rfl dX13_carrier_60 (by decide) (Nat.le_of_ble_eq_true rfl) ?_
      refine m_fair ?_
      refine j_iret rfl dX13_carrier_63 ?_
      have q := hp.2 (by omega) m (fun z y0 y5 y6 y7 y8 y9 => by rw [hm z y0 y5 y6 y7 y8 y9, e1, up_off _ _ y0]) (fun j j0 j1 => by rw [hJ j j1, e1, up_ne _ _ j0]) (by rw [hJ 0 (by decide), e1]; rfl)
      first
        | (rw [if_pos (Bool.not_eq_false _ |>.mp h46)] at q; exact q)
        | (rw [if_neg (by rw [h46]; decide)] at q; exact q)
  · refine j_aload_n dX13_carrier_33 rfl rfl ?_
    refine j_bipush (v := nI 6) dX13_carrier_34 (by decide) ?_
    refine cV13_57 (d1 := 1) rfl dX13_carrier_36 (by decide) (Nat.le_of_ble_eq_true rfl) ?_
    refine m_refused ?_
    refine j_iret rfl dX13_carrier_39 ?_
    exact hp.1 (by omega) m (fun z y0 y5 y6 y7 y8 y9 => by rw [hm z y0 y5 y6 y7 y8 y9, e1, up_off _ _ y0]) (fun j j0 j1 => by rw [hJ j j1, e1, up_ne _ _ j0]) (by rw [hJ 0 (by decide), e1]; rfl)
theorem mx_carrierB {x : Int32} (hX : XM mr) (hM : MM M) (hY : XT mr M) (hTn : mr 1000 3 = some M) (hg : GB t) (hW : WT t) (hR : RM mi M t) (hb : bad x (t 0 6)) (hp : post (some (.int (-1))) (rf mi (nI 1)) ml mr dom) : CT G 6 0 0 yX13_carrier cX13_carrier 2 (some .int) [.ref 1000, .int x] mi ml mr dom post := by
  have w := hW.1
  have hge := hM.ge
  refine enter 0 (by decide) rfl rfl (fun X => ?_)
  refine j_aload_n dX13_carrier_0 rfl rfl ?_
  refine j_iconst (v := nI 0) dX13_carrier_1 (by decide) ?_
  refine pI13_51 rfl dX13_carrier_2 ?_
  obtain ⟨m1, e1⟩ : ∃ m, m = up mi 1000 0 (nI 0) := ⟨_, rfl⟩
  rw [← e1]
  have hR1 : RM m1 M t := RM_lo hM (fun n hn => by rw [e1, up_off _ _ (by omega)]) hR
  refine j_aload_n dX13_carrier_5 rfl rfl ?_
  refine j_iload_n dX13_carrier_6 rfl rfl ?_
  refine cV13_361 (d1 := 1) rfl dX13_carrier_7 (by decide) (Nat.le_of_ble_eq_true rfl) ?_
  refine m_isGoodB hX hM hY hTn hg hW hR1 hb ?_
  refine j_if_ne (tgt := 19) dX13_carrier_10 (by decide) (fun h10 => absurd (by decide) h10) (fun h10 => ?_)
  refine j_aload_n dX13_carrier_13 rfl rfl ?_
  refine j_iconst (v := nI 1) dX13_carrier_14 (by decide) ?_
  refine cV13_57 (d1 := 1) rfl dX13_carrier_15 (by decide) (Nat.le_of_ble_eq_true rfl) ?_
  refine m_refused ?_
  refine j_iret rfl dX13_carrier_18 ?_
  rw [e1]; exact hp
theorem mx_aloneB {x : Int32} (hX : XM mr) (hM : MM M) (hY : XT mr M) (hTn : mr 1000 3 = some M) (hg : GB t) (hW : WT t) (hR : RM mi M t) (hb : bad x (t 0 5)) (hp : post (some (.int (-1))) (rf mi (nI 1)) ml mr dom) : CT G 5 0 0 yX13_alone cX13_alone 4 (some .int) [.ref 1000, .int x] mi ml mr dom post := by
  have w := hW.1
  have hge := hM.ge
  refine enter 2 (by decide) rfl rfl (fun X => ?_)
  refine j_aload_n dX13_alone_0 rfl rfl ?_
  refine j_iconst (v := nI 0) dX13_alone_1 (by decide) ?_
  refine pI13_51 rfl dX13_alone_2 ?_
  obtain ⟨m1, e1⟩ : ∃ m, m = up mi 1000 0 (nI 0) := ⟨_, rfl⟩
  rw [← e1]
  have hR1 : RM m1 M t := RM_lo hM (fun n hn => by rw [e1, up_off _ _ (by omega)]) hR
  refine j_aload_n dX13_alone_5 rfl rfl ?_
  refine j_iload_n dX13_alone_6 rfl rfl ?_
  refine cV13_355 (d1 := 1) rfl dX13_alone_7 (by decide) (Nat.le_of_ble_eq_true rfl) ?_
  refine m_isPersonB hX hM hY hTn hg hW hR1 hb ?_
  refine j_if_eq (tgt := 26) dX13_alone_10 (by decide) (fun h10 => ?_) (fun h10 => absurd (by decide) h10)
  refine j_aload_n dX13_alone_26 rfl rfl ?_
  refine j_iconst (v := nI 1) dX13_alone_27 (by decide) ?_
  refine cV13_57 (d1 := 1) rfl dX13_alone_28 (by decide) (Nat.le_of_ble_eq_true rfl) ?_
  refine m_refused ?_
  refine j_iret rfl dX13_alone_31 ?_
  rw [e1]; exact hp
theorem mx_aloneB2 {p : Nat} (hX : XM mr) (hM : MM M) (hY : XT mr M) (hTn : mr 1000 3 = some M) (hg : GB t) (hW : WT t) (hR : RM mi M t) (h1 : p < t 0 5) (hk : ¬ t 4 p = 1) (hp : post (some (.int (-1))) (rf mi (nI 1)) ml mr dom) : CT G 5 0 0 yX13_alone cX13_alone 4 (some .int) [.ref 1000, .int (nI p)] mi ml mr dom post := by
  have w := hW.1
  have hge := hM.ge
  refine enter 2 (by decide) rfl rfl (fun X => ?_)
  refine j_aload_n dX13_alone_0 rfl rfl ?_
  refine j_iconst (v := nI 0) dX13_alone_1 (by decide) ?_
  refine pI13_51 rfl dX13_alone_2 ?_
  obtain ⟨m1, e1⟩ : ∃ m, m = up mi 1000 0 (nI 0) := ⟨_, rfl⟩
  rw [← e1]
  have hR1 : RM m1 M t := RM_lo hM (fun n hn => by rw [e1, up_off _ _ (by omega)]) hR
  refine j_aload_n dX13_alone_5 rfl rfl ?_
  refine j_iload_n dX13_alone_6 rfl rfl ?_
  refine cV13_355 (d1 := 1) rfl dX13_alone_7 (by decide) (Nat.le_of_ble_eq_true rfl) ?_
  refine m_isPersonG hX hM hY hTn hg hW hR1 (by omega) ?_
  refine j_if_eq (tgt := 26) dX13_alone_10 (by decide) (fun h10 => absurd h10 (by decide)) (fun h10 => ?_)
  refine j_aload_n dX13_alone_13 rfl rfl ?_
  refine gR13_335 rfl dX13_alone_14 hTn ?_
  refine gR13_278 (kM0 hM) dX13_alone_17 (xM4 hY) ?_
  refine j_iload_n dX13_alone_20 rfl rfl ?_
  refine j_iald (kM4 hM) (inT (lM4 hM) (show p < 6 by omega) (by decide)) dX13_alone_21 ?_
  rw [nI_clamp (by omega), rM4 hR1 (show p < 6 by omega)]
  refine j_iconst (v := nI 1) dX13_alone_22 (by decide) ?_
  refine j_icmp_eq (tgt := 32) dX13_alone_23 (by decide) (fun h23 => by exfalso; rw [nI_eq (by have := hg 4 p; omega) (by omega)] at h23; have := hg 4 p; omega) (fun h23 => ?_)
  refine j_aload_n dX13_alone_26 rfl rfl ?_
  refine j_iconst (v := nI 1) dX13_alone_27 (by decide) ?_
  refine cV13_57 (d1 := 1) rfl dX13_alone_28 (by decide) (Nat.le_of_ble_eq_true rfl) ?_
  refine m_refused ?_
  refine j_iret rfl dX13_alone_31 ?_
  rw [e1]; exact hp
theorem mx_alone {p : Nat} (hX : XM mr) (hM : MM M) (hY : XT mr M) (hTn : mr 1000 3 = some M) (hg : GB t) (hW : WT t) (hR : RM mi M t) (hV : VM mi t v) (h1 : p < t 0 5) (hk : t 4 p = 1) (hp : ∀ m : MI, (∀ z, z ≠ 1000 → z ≠ 1005 → z ≠ 1006 → m z = mi z) → (∀ j, j ≠ 0 → m 1000 j = mi 1000 j) → m 1000 0 = 0 → post (some (.int (nI (tk t v p (alS t v p (t 0 6)))))) (up (up m 1000 1 0) 1000 2 (-1)) ml mr dom) : CT G 5 0 0 yX13_alone cX13_alone 4 (some .int) [.ref 1000, .int (nI p)] mi ml mr dom post := by
  have w := hW.1
  have hge := hM.ge
  refine enter 2 (by decide) rfl rfl (fun X => ?_)
  refine j_aload_n dX13_alone_0 rfl rfl ?_
  refine j_iconst (v := nI 0) dX13_alone_1 (by decide) ?_
  refine pI13_51 rfl dX13_alone_2 ?_
  obtain ⟨m1, e1⟩ : ∃ m, m = up mi 1000 0 (nI 0) := ⟨_, rfl⟩
  rw [← e1]
  have hR1 : RM m1 M t := RM_lo hM (fun n hn => by rw [e1, up_off _ _ (by omega)]) hR
  have hV1 : VM m1 t v := VM_off (by rw [e1, up_off _ _ (by decide)]) hV
  refine j_aload_n dX13_alone_5 rfl rfl ?_
  refine j_iload_n dX13_alone_6 rfl rfl ?_
  refine cV13_355 (d1 := 1) rfl dX13_alone_7 (by decide) (Nat.le_of_ble_eq_true rfl) ?_
  refine m_isPersonG hX hM hY hTn hg hW hR1 (by omega) ?_
  refine j_if_eq (tgt := 26) dX13_alone_10 (by decide) (fun h10 => absurd h10 (by decide)) (fun h10 => ?_)
  refine j_aload_n dX13_alone_13 rfl rfl ?_
  refine gR13_335 rfl dX13_alone_14 hTn ?_
  refine gR13_278 (kM0 hM) dX13_alone_17 (xM4 hY) ?_
  refine j_iload_n dX13_alone_20 rfl rfl ?_
  refine j_iald (kM4 hM) (inT (lM4 hM) (show p < 6 by omega) (by decide)) dX13_alone_21 ?_
  rw [nI_clamp (by omega), rM4 hR1 (show p < 6 by omega)]
  refine j_iconst (v := nI 1) dX13_alone_22 (by decide) ?_
  refine j_icmp_eq (tgt := 32) dX13_alone_23 (by decide) (fun h23 => ?_) (fun h23 => by exfalso; rw [nI_eq (by have := hg 4 p; omega) (by omega)] at h23; have := hg 4 p; omega)
  refine j_aload_n dX13_alone_32 rfl rfl ?_
  refine cV13_420 (d1 := 4) rfl dX13_alone_33 (by decide) (Nat.le_of_ble_eq_true rfl) ?_
  refine m_laysTakes hX hM hY hTn hg hW hR1 hV1 (fun m hm ht => ?_)
  have hRm : RM m M t := RM_lo hM (fun n hn => by rw [hm n (by omega) (by omega)]) hR1
  have hVm : VM m t v := VM_off (by rw [hm 1002 (by decide) (by decide)]) hV1
  refine j_iconst (v := nI 0) dX13_alone_36 (by decide) ?_
  refine j_istore_n (lv2 := [_, _, _, _]) dX13_alone_37 rfl (by decide) rfl rfl ?_
  refine j_iconst (v := nI 0) dX13_alone_38 (by decide) ?_
  refine j_istore_n (lv2 := [_, _, _, _]) dX13_alone_39 rfl (by decide) rfl rfl ?_
  rw [show nI 0 = nI (alS t v p 0) from rfl]
  have key : J cX13_alone 4 yX13_alone.cls yX13_alone.name (some .int) 5 G X post 0 0 m ml mr dom 40 [some (.ref 1000), some (.int (nI p)), some (.int (nI (alS t v p 0))), some (.int (nI 0))] [] := by
    refine lq (n := t 0 6) (H := fun g => J cX13_alone 4 yX13_alone.cls yX13_alone.name (some .int) 5 G X post 0 0 m ml mr dom 40 [some (.ref 1000), some (.int (nI p)), some (.int (nI (alS t v p g))), some (.int (nI g))] []) ?_ (fun g hg6 ih => ?_)
    · skip
      refine j_iload_n dX13_alone_40 rfl rfl ?_
      refine j_aload_n dX13_alone_41 rfl rfl ?_
      refine gR13_335 rfl dX13_alone_42 hTn ?_
      refine gI13_288 (kM0 hM) dX13_alone_45 ?_
      rw [hRm.1 6 (by decide)]
      refine j_icmp_ge (tgt := 84) dX13_alone_48 (by decide) (fun h48 => ?_) (fun h48 => by exfalso; rw [nI_leI (by have := hg 0 6; omega) (by have := hg 0 6; omega)] at h48; have := hg 0 6; omega)
      refine j_aload_n dX13_alone_84 rfl rfl ?_
      refine j_aload_n dX13_alone_85 rfl rfl ?_
      refine gR13_30 rfl dX13_alone_86 (x1006 hX) ?_
      refine j_bipush (v := nI 32) dX13_alone_89 (by decide) ?_
      refine j_iload_n dX13_alone_91 rfl rfl ?_
      refine j_imul dX13_alone_92 ?_
      rw [pk_mul]
      refine j_iload_n dX13_alone_93 rfl rfl ?_
      refine j_iadd dX13_alone_94 ?_
      rw [nI_add]
      refine j_iald rfl (inT (show ln 1006 = 192 from rfl) (by have := alS_32 (t := t) (v := v) p (show t 0 6 ≤ 5 by omega); omega) (by decide)) dX13_alone_95 ?_
      rw [nI_clamp (by have := alS_32 (t := t) (v := v) p (show t 0 6 ≤ 5 by omega); omega), ht p _ h1 (alS_32 (t := t) (v := v) p (show t 0 6 ≤ 5 by omega))]
      refine cV13_61 (d1 := 1) rfl dX13_alone_96 (by decide) (Nat.le_of_ble_eq_true rfl) ?_
      refine m_fair ?_
      refine j_iret rfl dX13_alone_99 ?_
      exact hp m (fun z y0 y5 y6 => by rw [hm z y5 y6, e1, up_off _ _ y0]) (fun j j0 => by rw [hm 1000 (by decide) (by decide), e1, up_ne _ _ j0]) (by rw [hm 1000 (by decide) (by decide), e1]; rfl)
    · skip
      refine j_iload_n dX13_alone_40 rfl rfl ?_
      refine j_aload_n dX13_alone_41 rfl rfl ?_
      refine gR13_335 rfl dX13_alone_42 hTn ?_
      refine gI13_288 (kM0 hM) dX13_alone_45 ?_
      rw [hRm.1 6 (by decide)]
      refine j_icmp_ge (tgt := 84) dX13_alone_48 (by decide) (fun h48 => by exfalso; rw [nI_leI (by have := hg 0 6; omega) (by omega)] at h48; have := hg 0 6; omega) (fun h48 => ?_)
      refine j_iload_n dX13_alone_51 rfl rfl ?_
      refine j_aload_n dX13_alone_52 rfl rfl ?_
      refine j_iload_n dX13_alone_53 rfl rfl ?_
      refine cV13_432 (d1 := 1) rfl dX13_alone_54 (by decide) (Nat.le_of_ble_eq_true rfl) ?_
      refine m_mustGo hX hM hY hTn hg hW hRm hVm (by omega) ?_
      refine j_if_eq (tgt := 75) dX13_alone_57 (by decide) (fun h57 => ?_) (fun h57 => ?_)
      all_goals rw [bN_eq0] at h57
      · refine j_iconst (v := nI 0) dX13_alone_75 (by decide) ?_
        refine j_ior dX13_alone_76 ?_
        rw [or_0]
        refine j_istore_n (lv2 := [_, _, _, _]) dX13_alone_77 rfl (by decide) rfl rfl ?_
        refine j_iinc1 (lv2 := [_, _, _, _]) dX13_alone_78 rfl (by decide) rfl rfl ?_
        rw [nI_1]
        refine j_goto (tgt := 40) dX13_alone_81 (by decide) ?_
        have c1 : alS t v p (g + 1) = alS t v p g := alS_f (fun q => by
          rw [Bool.and_eq_true] at q
          first | (rw [q.1] at h57; cases h57) | (rw [q.2] at h66; cases h66))
        rw [c1] at ih
        exact ih
      · refine j_aload_n dX13_alone_60 rfl rfl ?_
        refine j_iload_n dX13_alone_61 rfl rfl ?_
        refine j_iload_n dX13_alone_62 rfl rfl ?_
        refine cV13_417 (d1 := 2) rfl dX13_alone_63 (by decide) (Nat.le_of_ble_eq_true rfl) ?_
        refine m_canCarry hX hM hY hTn hg hW hRm hVm (by omega) (by omega) ?_
        refine j_if_eq (tgt := 75) dX13_alone_66 (by decide) (fun h66 => ?_) (fun h66 => ?_)
        all_goals rw [bN_eq0] at h66
        · refine j_iconst (v := nI 0) dX13_alone_75 (by decide) ?_
          refine j_ior dX13_alone_76 ?_
          rw [or_0]
          refine j_istore_n (lv2 := [_, _, _, _]) dX13_alone_77 rfl (by decide) rfl rfl ?_
          refine j_iinc1 (lv2 := [_, _, _, _]) dX13_alone_78 rfl (by decide) rfl rfl ?_
          rw [nI_1]
          refine j_goto (tgt := 40) dX13_alone_81 (by decide) ?_
          have c1 : alS t v p (g + 1) = alS t v p g := alS_f (fun q => by
            rw [Bool.and_eq_true] at q
            first | (rw [q.1] at h57; cases h57) | (rw [q.2] at h66; cases h66))
          rw [c1] at ih
          exact ih
        · refine j_iconst (v := nI 1) dX13_alone_69 (by decide) ?_
          refine j_iload_n dX13_alone_70 rfl rfl ?_
          refine j_ishl dX13_alone_71 ?_
          refine j_goto (tgt := 76) dX13_alone_72 (by decide) ?_
          refine j_ior dX13_alone_76 ?_
          rw [bit_or _ (by have := alS_32 (t := t) (v := v) p (show g ≤ 5 by omega); show alS t v p g < 256; omega) _ (by show g < 8; omega)]
          refine j_istore_n (lv2 := [_, _, _, _]) dX13_alone_77 rfl (by decide) rfl rfl ?_
          refine j_iinc1 (lv2 := [_, _, _, _]) dX13_alone_78 rfl (by decide) rfl rfl ?_
          rw [nI_1]
          refine j_goto (tgt := 40) dX13_alone_81 (by decide) ?_
          have c1 : alS t v p (g + 1) = alS t v p g ||| 2 ^ g := alS_t (by rw [Bool.not_eq_false _ |>.mp h57, Bool.not_eq_false _ |>.mp h66]; rfl)
          rw [c1] at ih
          exact ih
  exact key
theorem mx_stuck  (hX : XM mr) (hM : MM M) (hY : XT mr M) (hTn : mr 1000 3 = some M) (hg : GB t) (hW : WT t) (hR : RM mi M t) (hV : VM mi t v)  (hp : post (some (.int (nI (bst (fun g => stB t v g (t 0 5)) (t 0 6))))) (fa mi) ml mr dom) : CT G 4 0 0 yX13_stuck cX13_stuck 5 (some .int) [.ref 1000] mi ml mr dom post := by
  have w := hW.1
  have hge := hM.ge
  refine enter 4 (by decide) rfl rfl (fun X => ?_)
  refine j_aload_n dX13_stuck_0 rfl rfl ?_
  refine j_iconst (v := nI 0) dX13_stuck_1 (by decide) ?_
  refine pI13_51 rfl dX13_stuck_2 ?_
  obtain ⟨m1, e1⟩ : ∃ m, m = up mi 1000 0 (nI 0) := ⟨_, rfl⟩
  rw [← e1]
  have hR1 : RM m1 M t := RM_lo hM (fun n hn => by rw [e1, up_off _ _ (by omega)]) hR
  have hV1 : VM m1 t v := VM_off (by rw [e1, up_off _ _ (by decide)]) hV
  refine j_aload_n dX13_stuck_5 rfl rfl ?_
  refine gR13_335 rfl dX13_stuck_6 hTn ?_
  refine j_ifnonnull (tgt := 18) dX13_stuck_9 (by decide) ?_
  refine j_iconst (v := nI 0) dX13_stuck_18 (by decide) ?_
  refine j_istore_n (lv2 := [_, _, _, _, _]) dX13_stuck_19 rfl (by decide) rfl rfl ?_
  refine j_iconst (v := nI 0) dX13_stuck_20 (by decide) ?_
  refine j_istore_n (lv2 := [_, _, _, _, _]) dX13_stuck_21 rfl (by decide) rfl rfl ?_
  rw [show nI 0 = nI (bst (fun g => stB t v g (t 0 5)) 0) from rfl]
  have key : ∀ z3 z4 : Option Value, J cX13_stuck 5 yX13_stuck.cls yX13_stuck.name (some .int) 4 G X post 0 0 m1 ml mr dom 22 [some (.ref 1000), some (.int (nI (bst (fun g => stB t v g (t 0 5)) 0))), some (.int (nI 0)), z3, z4] [] := by
    refine lq (n := t 0 6) (H := fun g => ∀ z3 z4 : Option Value, J cX13_stuck 5 yX13_stuck.cls yX13_stuck.name (some .int) 4 G X post 0 0 m1 ml mr dom 22 [some (.ref 1000), some (.int (nI (bst (fun g => stB t v g (t 0 5)) g))), some (.int (nI g)), z3, z4] []) (fun z3 z4 => ?_) (fun g hg6 ihg z3 z4 => ?_)
    · skip
      refine j_iload_n dX13_stuck_22 rfl rfl ?_
      refine j_aload_n dX13_stuck_23 rfl rfl ?_
      refine gR13_335 rfl dX13_stuck_24 hTn ?_
      refine gI13_288 (kM0 hM) dX13_stuck_27 ?_
      rw [hR1.1 6 (by decide)]
      refine j_icmp_ge (tgt := 96) dX13_stuck_30 (by decide) (fun h30 => ?_) (fun h30 => by exfalso; rw [nI_leI (by have := hg 0 6; omega) (by have := hg 0 6; omega)] at h30; have := hg 0 6; omega)
      refine j_aload_n dX13_stuck_96 rfl rfl ?_
      refine j_iload_n dX13_stuck_97 rfl rfl ?_
      refine cV13_61 (d1 := 1) rfl dX13_stuck_98 (by decide) (Nat.le_of_ble_eq_true rfl) ?_
      refine m_fair ?_
      refine j_iret rfl dX13_stuck_101 ?_
      rw [e1]; exact hp
    · skip
      refine j_iload_n dX13_stuck_22 rfl rfl ?_
      refine j_aload_n dX13_stuck_23 rfl rfl ?_
      refine gR13_335 rfl dX13_stuck_24 hTn ?_
      refine gI13_288 (kM0 hM) dX13_stuck_27 ?_
      rw [hR1.1 6 (by decide)]
      refine j_icmp_ge (tgt := 96) dX13_stuck_30 (by decide) (fun h30 => by exfalso; rw [nI_leI (by have := hg 0 6; omega) (by omega)] at h30; have := hg 0 6; omega) (fun h30 => ?_)
      refine j_aload_n dX13_stuck_33 rfl rfl ?_
      refine j_iload_n dX13_stuck_34 rfl rfl ?_
      refine cV13_432 (d1 := 1) rfl dX13_stuck_35 (by decide) (Nat.le_of_ble_eq_true rfl) ?_
      refine m_mustGo hX hM hY hTn hg hW hR1 hV1 (by omega) ?_
      refine j_istore_n (lv2 := [_, _, _, _, _]) dX13_stuck_38 rfl (by decide) rfl rfl ?_
      refine j_iconst (v := nI 0) dX13_stuck_39 (by decide) ?_
      refine j_istore (lv2 := [_, _, _, _, _]) dX13_stuck_40 (by decide) rfl rfl ?_
      refine lq (n := t 0 5) (H := fun p => J cX13_stuck 5 yX13_stuck.cls yX13_stuck.name (some .int) 4 G X post 0 0 m1 ml mr dom 42 [some (.ref 1000), some (.int (nI (bst (fun g => stB t v g (t 0 5)) g))), some (.int (nI g)), some (.int (nI (bN (stB t v g p)))), some (.int (nI p))] []) ?_ (fun p hp5 ih => ?_)
      · skip
        refine j_iload dX13_stuck_42 rfl ?_
        refine j_aload_n dX13_stuck_44 rfl rfl ?_
        refine gR13_335 rfl dX13_stuck_45 hTn ?_
        refine gI13_199 (kM0 hM) dX13_stuck_48 ?_
        rw [hR1.1 5 (by decide)]
        refine j_icmp_ge (tgt := 80) dX13_stuck_51 (by decide) (fun h51 => ?_) (fun h51 => by exfalso; rw [nI_leI (by have := hg 0 5; omega) (by have := hg 0 5; omega)] at h51; have := hg 0 5; omega)
        refine j_iload_n dX13_stuck_80 rfl rfl ?_
        refine j_if_eq (tgt := 90) dX13_stuck_81 (by decide) (fun h81 => ?_) (fun h81 => ?_)
        all_goals rw [bN_eq0] at h81
        · refine j_iinc1 (lv2 := [_, _, _, _, _]) dX13_stuck_90 rfl (by decide) rfl rfl ?_
          rw [nI_1]
          refine j_goto (tgt := 22) dX13_stuck_93 (by decide) ?_
          have c1 : bst (fun g => stB t v g (t 0 5)) (g + 1) = bst (fun g => stB t v g (t 0 5)) g := if_neg (by show ¬ stB t v g (t 0 5) = true; rw [h81]; decide)
          rw [c1] at ihg
          exact ihg _ _
        · refine j_iload_n dX13_stuck_84 rfl rfl ?_
          refine j_iconst (v := nI 1) dX13_stuck_85 (by decide) ?_
          refine j_iload_n dX13_stuck_86 rfl rfl ?_
          refine j_ishl dX13_stuck_87 ?_
          refine j_ior dX13_stuck_88 ?_
          rw [bit_or _ (by have := Nat.pow_le_pow_right (n := 2) (i := g) (j := 5) (by decide) (by omega); have := bst_lt (fun g => stB t v g (t 0 5)) g; show bst (fun g => stB t v g (t 0 5)) g < 256; omega) _ (by show g < 8; omega)]
          refine j_istore_n (lv2 := [_, _, _, _, _]) dX13_stuck_89 rfl (by decide) rfl rfl ?_
          refine j_iinc1 (lv2 := [_, _, _, _, _]) dX13_stuck_90 rfl (by decide) rfl rfl ?_
          rw [nI_1]
          refine j_goto (tgt := 22) dX13_stuck_93 (by decide) ?_
          have c1 : bst (fun g => stB t v g (t 0 5)) (g + 1) = bst (fun g => stB t v g (t 0 5)) g ||| 2 ^ g := if_pos (Bool.not_eq_false _ |>.mp h81)
          rw [c1] at ihg
          exact ihg _ _
      · skip
        refine j_iload dX13_stuck_42 rfl ?_
        refine j_aload_n dX13_stuck_44 rfl rfl ?_
        refine gR13_335 rfl dX13_stuck_45 hTn ?_
        refine gI13_199 (kM0 hM) dX13_stuck_48 ?_
        rw [hR1.1 5 (by decide)]
        refine j_icmp_ge (tgt := 80) dX13_stuck_51 (by decide) (fun h51 => by exfalso; rw [nI_leI (by have := hg 0 5; omega) (by omega)] at h51; have := hg 0 5; omega) (fun h51 => ?_)
        refine j_iload_n dX13_stuck_54 rfl rfl ?_
        refine j_if_eq (tgt := 72) dX13_stuck_55 (by decide) (fun h55 => ?_) (fun h55 => ?_)
        all_goals rw [bN_eq0] at h55
        · refine j_iconst (v := nI 0) dX13_stuck_72 (by decide) ?_
          refine j_istore_n (lv2 := [_, _, _, _, _]) dX13_stuck_73 rfl (by decide) rfl rfl ?_
          refine j_iinc1 (lv2 := [_, _, _, _, _]) dX13_stuck_74 rfl (by decide) rfl rfl ?_
          rw [nI_1]
          refine j_goto (tgt := 42) dX13_stuck_77 (by decide) ?_
          have c1 : stB t v g (p + 1) = false := by
            rw [stB]
            first | (rw [h55]; rfl) | (rw [Bool.not_eq_false _ |>.mp h65]; simp)
          rw [c1] at ih
          exact ih
        · refine j_aload_n dX13_stuck_58 rfl rfl ?_
          refine j_iload dX13_stuck_59 rfl ?_
          refine j_iload_n dX13_stuck_61 rfl rfl ?_
          refine cV13_417 (d1 := 2) rfl dX13_stuck_62 (by decide) (Nat.le_of_ble_eq_true rfl) ?_
          refine m_canCarry hX hM hY hTn hg hW hR1 hV1 (by omega) (by omega) ?_
          refine j_if_ne (tgt := 72) dX13_stuck_65 (by decide) (fun h65 => ?_) (fun h65 => ?_)
          all_goals rw [bN_eq0] at h65
          · refine j_iconst (v := nI 0) dX13_stuck_72 (by decide) ?_
            refine j_istore_n (lv2 := [_, _, _, _, _]) dX13_stuck_73 rfl (by decide) rfl rfl ?_
            refine j_iinc1 (lv2 := [_, _, _, _, _]) dX13_stuck_74 rfl (by decide) rfl rfl ?_
            rw [nI_1]
            refine j_goto (tgt := 42) dX13_stuck_77 (by decide) ?_
            have c1 : stB t v g (p + 1) = false := by
              rw [stB]
              first | (rw [h55]; rfl) | (rw [Bool.not_eq_false _ |>.mp h65]; simp)
            rw [c1] at ih
            exact ih
          · refine j_iconst (v := nI 1) dX13_stuck_68 (by decide) ?_
            refine j_goto (tgt := 73) dX13_stuck_69 (by decide) ?_
            refine j_istore_n (lv2 := [_, _, _, _, _]) dX13_stuck_73 rfl (by decide) rfl rfl ?_
            refine j_iinc1 (lv2 := [_, _, _, _, _]) dX13_stuck_74 rfl (by decide) rfl rfl ?_
            rw [nI_1]
            refine j_goto (tgt := 42) dX13_stuck_77 (by decide) ?_
            have c1 : stB t v g (p + 1) = true := by rw [stB, Bool.not_eq_false _ |>.mp h55, h65]; rfl
            rw [c1] at ih
            exact ih
  exact key none none
end M13e
