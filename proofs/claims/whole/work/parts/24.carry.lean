/-! the class: Carrying, first half -/
section C0
variable {G : GG} {ml : ML} {mr : MR} {dom : List Nat} {T : Nat} {t : TW} {v : Nat → Nat}
/-- where the goods are -/
def GP (mi : MI) (t : TW) (v : Nat → Nat) : Prop := ∀ g, g < t 0 6 → mi 9 (6 + g) = nI (v (6 + g)) ∧ v (6 + g) < t 0 3
def mgo (t : TW) (v : Nat → Nat) (g : Nat) : Bool := decide (v (6 + g) ≠ t 10 g)
theorem c_place {mi : MI} {post : PT} {g : Nat} (hX : XR mr) (hW : WT t) (hG : GP mi t v) (hg : g < t 0 6) (hp : post (some (.int (nI (v (6 + g))))) mi ml mr dom) : CT G 1 0 0 yX4_placeOfGood cX4_placeOfGood 2 (some .int) [.ref 8, .int (nI g)] mi ml mr dom post := by
  have w := hW.1
  have e : (6 : Int32) + nI g = nI (6 + g) := by rw [show (6 : Int32) = nI 6 from rfl, nI_add]
  refine tX4_placeOfGood hX (by rw [e]; exact vp_in_nI (by omega) (by omega)) ?_
  rw [e, nI_clamp (by omega), (hG g hg).1]
  exact hp
theorem c_mustGo {mi : MI} {post : PT} {g : Nat} (hX : XR mr) (hT : TT T) (hW : WT t) (hR : RX mi T t) (hG : GP mi t v) (hg : g < t 0 6) (hp : post (some (.int (nI (bN (mgo t v g))))) mi ml mr dom) : CT G 2 0 0 yX0_mustGo cX0_mustGo 3 (some .boolean) [.ref T, .ref 8, .int (nI g)] mi ml mr dom post := by
  have w := hW.1
  have r3 := (hR.go hg).2.2
  have w4 := (hW.go hg).2.2.2
  have g2 := (hG g hg).2
  refine enter 0 (by decide) rfl rfl (fun X => ?_)
  refine j_aload_n dX0_mustGo_0 rfl rfl ?_
  refine j_iload_n dX0_mustGo_1 rfl rfl ?_
  refine cV0_68 (d1 := 1) rfl dX0_mustGo_2 (by decide) (Nat.le_of_ble_eq_true rfl) ?_
  refine c_place hX hW hG hg ?_
  refine j_aload_n dX0_mustGo_5 rfl rfl ?_
  refine gR0_74 (kT0 hT) dX0_mustGo_6 (xT_wares hX hT) ?_
  refine j_iload_n dX0_mustGo_9 rfl rfl ?_
  refine j_aald (C := RX1) (kT6 hT) (by decide) (fun _ => rfl) (inT (lT6 hT) (show g < 5 by omega) (by omega)) (mr_nI (by omega) (xT_g hX hT (show g < 5 by omega))) dX0_mustGo_10 (by decide) ?_
  refine gI0_78 (kG hT (show g < 5 by omega)) dX0_mustGo_11 ?_
  refine j_icmp_eq (tgt := 21) dX0_mustGo_14 (by decide) (fun h14 => ?_) (fun h14 => ?_)
  · refine j_iconst (v := 0) dX0_mustGo_21 (by decide) ?_
    refine j_zret rfl (by decide) dX0_mustGo_22 ?_
    rw [r3, nI_eq (by omega) (by omega)] at h14
    unfold mgo at hp
    first
      | (rw [decide_eq_false (fun q => q h14)] at hp; exact hp)
      | (rw [decide_eq_true h14] at hp; exact hp)
  · refine j_iconst (v := 1) dX0_mustGo_17 (by decide) ?_
    refine j_goto (tgt := 22) dX0_mustGo_18 (by decide) ?_
    refine j_zret rfl (by decide) dX0_mustGo_22 ?_
    rw [r3, nI_eq (by omega) (by omega)] at h14
    unfold mgo at hp
    first
      | (rw [decide_eq_false (fun q => q h14)] at hp; exact hp)
      | (rw [decide_eq_true h14] at hp; exact hp)
theorem ix32 (a b : Nat) : nI a * 32 + nI b = nI (32 * a + b) := by
  rw [show (32 : Int32) = nI 32 from rfl, pk_mul, nI_add, Nat.mul_comm]
def str (t : TW) (p : Nat) : Nat := if t 4 p = 1 then t 6 p / 3 else 0
def mor (t : TW) (fw : Nat → Nat) (v : Nat → Nat) (a g : Nat) : Nat := fw (6 * a + v (6 + g)) + fw (6 * v (6 + g) + t 10 g)
def coK (t : TW) (fw : Nat → Nat) (v : Nat → Nat) (p a ld g : Nat) : Bool := !(ld.testBit g) && (mgo t v g && (decide (t 8 g ≤ str t p) && decide (mor t fw v a g < 1000000)))
/-- a child carries on -/
def co (t : TW) (fw : Nat → Nat) (v : Nat → Nat) (p : Nat) : Nat → Nat → Nat → Nat → (Nat → Nat) → Nat → Nat
  | 0, _, ld, sum, W => upN W (32 * p + ld) (min (W (32 * p + ld)) sum)
  | n + 1, a, ld, sum, W => fu (fun g W => if coK t fw v p a ld g then co t fw v p n (t 10 g) (ld ||| 2 ^ g) (sum + mor t fw v a g) W else W) (t 0 6) (upN W (32 * p + ld) (min (W (32 * p + ld)) sum))
theorem upN_le {W : Nat → Nat} {k s : Nat} (h : le6 W) : le6 (upN W k (min (W k) s)) := by
  intro i; unfold upN; split
  · have := h k; omega
  · exact h i
theorem co_le (t : TW) (fw v : Nat → Nat) (p : Nat) : ∀ n a ld sum W, le6 W → le6 (co t fw v p n a ld sum W) := by
  intro n
  induction n with
  | zero => intro a ld sum W h; exact upN_le h
  | succ n ih =>
    intro a ld sum W h
    unfold co
    refine fu_inv (I := le6) (fun g W hW => ?_) _ (upN_le h)
    split
    · exact ih _ _ _ _ hW
    · exact hW
theorem pop_or : ∀ n, n < 32 → ∀ i, i < 5 → n.testBit i = false → popc (n ||| 2 ^ i) = popc n + 1 := by decide +kernel
theorem pop_5 : ∀ n, n < 32 → 5 ≤ popc n → ∀ i, i < 5 → n.testBit i = true := by decide +kernel
theorem RX.o16 {m mi : MI} (hT : TT T) (hm : off1 16 m mi) (hR : RX mi T t) : RX m T t := RX_off (fun j => hm _ (by rcases hT with rfl | rfl <;> omega)) hR
theorem GP.o16 {m mi : MI} (hm : off1 16 m mi) (hG : GP mi t v) : GP m t v := fun g hg => by rw [hm 9 (by decide)]; exact hG g hg
theorem c_carryOn {fw : Nat → Nat} {p : Nat} (hX : XR mr) (hT : TT T) (hW : WT t) (hfl : ∀ i, fw i ≤ 1000000) (hp1 : p < t 0 5) : ∀ (n a ld sum : Nat) (W : Nat → Nat) (mi : MI) (post : PT), RX mi T t → GP mi t v → (∀ i, i < 36 → mi (T + 4) i = nI (fw i)) → a < 6 → ld < 32 → popc ld + n = 5 → sum ≤ (5 - n) * 1000000 → le6 W → (∀ i, i < 192 → mi 16 i = nI (W i)) → (∀ m, off1 16 m mi → (∀ i, i < 192 → m 16 i = nI (co t fw v p n a ld sum W i)) → post none m ml mr dom) → CT G (n + 3) 0 0 yX0_carryOn cX0_carryOn 12 none [.ref 12, .ref T, .ref 8, .int (nI p), .int (nI a), .int (nI ld), .int (nI sum)] mi ml mr dom post := by
  have w := hW.1
  intro n
  induction n with
  | zero =>
    intro a ld sum W mi post hR hG hf ha6 hld hpo hsum hle hWm hp
    refine enter 5 (by decide) rfl rfl (fun X => ?_)
    refine j_iload_n dX0_carryOn_0 rfl rfl ?_
    refine j_bipush (v := 32) dX0_carryOn_1 (by decide) ?_
    refine j_imul dX0_carryOn_3 ?_
    refine j_iload dX0_carryOn_4 rfl ?_
    refine j_iadd dX0_carryOn_6 ?_
    rw [ix32]
    refine j_istore (lv2 := [_, _, _, _, _, _, _, _, _, _, _, _]) dX0_carryOn_7 (by decide) rfl rfl ?_
    refine j_aload_n dX0_carryOn_9 rfl rfl ?_
    refine gR0_21 rfl dX0_carryOn_10 (x_minutes hX) ?_
    refine j_iload dX0_carryOn_13 rfl ?_
    refine j_aload_n dX0_carryOn_15 rfl rfl ?_
    refine gR0_21 rfl dX0_carryOn_16 (x_minutes hX) ?_
    refine j_iload dX0_carryOn_19 rfl ?_
    refine j_iald rfl (inT (a := 16) (N := 192) rfl (show 32 * p + ld < 192 by omega) (by omega)) dX0_carryOn_21 ?_
    rw [nI_clamp (by omega), hWm (32 * p + ld) (by omega)]
    refine j_iload dX0_carryOn_22 rfl ?_
    refine j_mmin0_65 dX0_carryOn_24 (by omega) (Nat.le_of_ble_eq_true rfl) ?_
    rw [imin_nI (by have := hle (32 * p + ld); omega) (by omega)]
    refine j_iast rfl (inT (a := 16) (N := 192) rfl (show 32 * p + ld < 192 by omega) (by omega)) dX0_carryOn_27 ?_
    rw [nI_clamp (by omega)]
    refine j_iconst (v := 0) dX0_carryOn_28 (by decide) ?_
    refine j_istore (lv2 := [_, _, _, _, _, _, _, _, _, _, _, _]) dX0_carryOn_29 (by decide) rfl rfl ?_
    skip
    simp only [co] at hp
    have hle0 := upN_le (k := 32 * p + ld) (s := sum) hle
    refine lq (n := t 0 6) (H := fun g => ∀ z9 z10 z11 : Option Value, ∀ m : MI, off1 16 m mi → (∀ i, i < 192 → m 16 i = nI (upN W (32 * p + ld) (min (W (32 * p + ld)) sum) i)) → J cX0_carryOn 12 yX0_carryOn.cls yX0_carryOn.name none (0 + 3) G X post 0 0 m ml mr dom 31 [some (.ref 12), some (.ref T), some (.ref 8), some (.int (nI p)), some (.int (nI a)), some (.int (nI ld)), some (.int (nI sum)), some (.int (nI (32 * p + ld))), some (.int (nI g)), z9, z10, z11] []) (fun z9 z10 z11 m hm hs => ?_) (fun g hg ih z9 z10 z11 m hm hs => ?_) none none none _ (fun n hn => up_off _ _ hn) (fun i hi => ?_)
    · skip
      refine j_iload dX0_carryOn_31 rfl ?_
      refine j_aload_n dX0_carryOn_33 rfl rfl ?_
      refine gI0_35 (kT0 hT) dX0_carryOn_34 ?_
      refine j_icmp_ge (tgt := 163) dX0_carryOn_37 (by decide) (fun _ => ?_) (fun h37 => absurd (by rw [(RX.o16 hT hm hR).goods]; exact nI_le (Nat.le_refl _) (by omega)) h37)
      refine j_vret rfl dX0_carryOn_163 ?_
      exact hp m hm hs
    · skip
      refine j_iload dX0_carryOn_31 rfl ?_
      refine j_aload_n dX0_carryOn_33 rfl rfl ?_
      refine gI0_35 (kT0 hT) dX0_carryOn_34 ?_
      refine j_icmp_ge (tgt := 163) dX0_carryOn_37 (by decide) (fun h37 => absurd (by rw [(RX.o16 hT hm hR).goods] at h37; exact h37) (nI_ge hg (by omega))) (fun _ => ?_)
      refine j_iload dX0_carryOn_40 rfl ?_
      refine j_iload dX0_carryOn_42 rfl ?_
      refine j_ishr dX0_carryOn_44 ?_
      refine j_iconst (v := 1) dX0_carryOn_45 (by decide) ?_
      refine j_iand dX0_carryOn_46 ?_
      refine j_iconst (v := 1) dX0_carryOn_47 (by decide) ?_
      refine j_icmp_eq (tgt := 157) dX0_carryOn_48 (by decide) (fun _ => ?_) (fun h48 => absurd (by rw [bit_tst ld (by omega) g (by omega)]; exact pop_5 ld hld (by omega) g (by omega)) h48)
      refine j_iinc1 (lv2 := [_, _, _, _, _, _, _, _, _, _, _, _]) dX0_carryOn_157 rfl (by decide) rfl rfl ?_
      refine j_goto (tgt := 31) dX0_carryOn_160 (by decide) ?_
      rw [nI_1]
      exact ih _ _ _ m hm hs
    · unfold upN
      by_cases hik : i = 32 * p + ld
      · subst hik; rw [up_at, if_pos rfl]
      · rw [up_ne _ _ hik, if_neg hik]; exact hWm i hi
  | succ n ihn =>
    intro a ld sum W mi post hR hG hf ha6 hld hpo hsum hle hWm hp
    refine enter 5 (by decide) rfl rfl (fun X => ?_)
    refine j_iload_n dX0_carryOn_0 rfl rfl ?_
    refine j_bipush (v := 32) dX0_carryOn_1 (by decide) ?_
    refine j_imul dX0_carryOn_3 ?_
    refine j_iload dX0_carryOn_4 rfl ?_
    refine j_iadd dX0_carryOn_6 ?_
    rw [ix32]
    refine j_istore (lv2 := [_, _, _, _, _, _, _, _, _, _, _, _]) dX0_carryOn_7 (by decide) rfl rfl ?_
    refine j_aload_n dX0_carryOn_9 rfl rfl ?_
    refine gR0_21 rfl dX0_carryOn_10 (x_minutes hX) ?_
    refine j_iload dX0_carryOn_13 rfl ?_
    refine j_aload_n dX0_carryOn_15 rfl rfl ?_
    refine gR0_21 rfl dX0_carryOn_16 (x_minutes hX) ?_
    refine j_iload dX0_carryOn_19 rfl ?_
    refine j_iald rfl (inT (a := 16) (N := 192) rfl (show 32 * p + ld < 192 by omega) (by omega)) dX0_carryOn_21 ?_
    rw [nI_clamp (by omega), hWm (32 * p + ld) (by omega)]
    refine j_iload dX0_carryOn_22 rfl ?_
    refine j_mmin0_65 dX0_carryOn_24 (by omega) (Nat.le_of_ble_eq_true rfl) ?_
    rw [imin_nI (by have := hle (32 * p + ld); omega) (by omega)]
    refine j_iast rfl (inT (a := 16) (N := 192) rfl (show 32 * p + ld < 192 by omega) (by omega)) dX0_carryOn_27 ?_
    rw [nI_clamp (by omega)]
    refine j_iconst (v := 0) dX0_carryOn_28 (by decide) ?_
    refine j_istore (lv2 := [_, _, _, _, _, _, _, _, _, _, _, _]) dX0_carryOn_29 (by decide) rfl rfl ?_
    skip
    simp only [co] at hp
    have hle0 := upN_le (k := 32 * p + ld) (s := sum) hle
    obtain ⟨W1, hW1⟩ : ∃ W1, upN W (32 * p + ld) (min (W (32 * p + ld)) sum) = W1 := ⟨_, rfl⟩
    rw [hW1] at hp hle0
    have P1 := pv hX hT hW hR hp1
    refine fl (n := t 0 6) (s0 := W1) (I := le6) (F := fun g W => if coK t fw v p a ld g then co t fw v p n (t 10 g) (ld ||| 2 ^ g) (sum + mor t fw v a g) W else W) (H := fun g W2 => ∀ z9 z10 z11 : Option Value, ∀ m : MI, off1 16 m mi → (∀ i, i < 192 → m 16 i = nI (W2 i)) → J cX0_carryOn 12 yX0_carryOn.cls yX0_carryOn.name none (n + 1 + 3) G X post 0 0 m ml mr dom 31 [some (.ref 12), some (.ref T), some (.ref 8), some (.int (nI p)), some (.int (nI a)), some (.int (nI ld)), some (.int (nI sum)), some (.int (nI (32 * p + ld))), some (.int (nI g)), z9, z10, z11] []) hle0 (fun g W h => ?_) (fun g hg W2 hle2 ih z9 z10 z11 m hm hs => ?_) (fun z9 z10 z11 m hm hs => ?_) none none none _ (fun n hn => up_off _ _ hn) (fun i hi => ?_)
    · split
      · exact co_le _ _ _ _ _ _ _ _ _ h
      · exact h
    · have P1 := pv hX hT hW (RX.o16 hT hm hR) hp1
      have hv6 : v (6 + g) < 6 := by have := (hG g hg).2; omega
      have ht6 : t 10 g < 6 := by have := (hW.go hg).2.2.2; omega
      have f1 := hfl (6 * a + v (6 + g))
      have f2 := hfl (6 * v (6 + g) + t 10 g)
      have hgs := (hW.go hg).2.1
      have hts := (hW.pe hp1).2.2.2.1
      refine j_iload dX0_carryOn_31 rfl ?_
      refine j_aload_n dX0_carryOn_33 rfl rfl ?_
      refine gI0_35 (kT0 hT) dX0_carryOn_34 ?_
      refine j_icmp_ge (tgt := 163) dX0_carryOn_37 (by decide) (fun h37 => absurd (by rw [(RX.o16 hT hm hR).goods] at h37; exact h37) (nI_ge hg (by omega))) (fun _ => ?_)
      refine j_iload dX0_carryOn_40 rfl ?_
      refine j_iload dX0_carryOn_42 rfl ?_
      refine j_ishr dX0_carryOn_44 ?_
      refine j_iconst (v := 1) dX0_carryOn_45 (by decide) ?_
      refine j_iand dX0_carryOn_46 ?_
      refine j_iconst (v := 1) dX0_carryOn_47 (by decide) ?_
      refine j_icmp_eq (tgt := 157) dX0_carryOn_48 (by decide) (fun h48 => ?_) (fun h48 => ?_)
      · refine j_iinc1 (lv2 := [_, _, _, _, _, _, _, _, _, _, _, _]) dX0_carryOn_157 rfl (by decide) rfl rfl ?_
        refine j_goto (tgt := 31) dX0_carryOn_160 (by decide) ?_
        rw [nI_1]
        first
          | exact ih _ _ _ m2 (hm2.tr hm) hs2
          | (rw [bit_tst ld (by omega) g (by omega)] at h48
             rw [if_neg (by unfold coK; rw [h48]; simp)] at ih
             exact ih _ _ _ m hm hs)
          | (rw [bN_eq0, Bool.not_eq_false] at h58
             first
               | (rw [((RX.o16 hT hm hR).go hg).1, nI_ltI (by split <;> omega) (by omega)] at h123
                  rw [if_neg (by unfold coK; rw [decide_eq_false (p := t 8 g ≤ str t p) (by have h9 : str t p < t 8 g := h123; omega)]; simp)] at ih
                  exact ih _ _ _ m hm hs)
               | (rw [show (1000000 : Int32) = nI 1000000 from rfl, nI_leI (by omega) (by omega)] at h130
                  first
                    | (rw [if_neg (by unfold coK mor; rw [decide_eq_false (p := fw (6 * a + v (6 + g)) + fw (6 * v (6 + g) + t 10 g) < 1000000) (by omega)]; simp)] at ih
                       exact ih _ _ _ m hm hs)))
          | (rw [bN_eq0] at h58
             rw [if_neg (by unfold coK; rw [h58]; simp)] at ih
             exact ih _ _ _ m hm hs)
      · refine j_aload_n dX0_carryOn_51 rfl rfl ?_
        refine j_aload_n dX0_carryOn_52 rfl rfl ?_
        refine j_iload dX0_carryOn_53 rfl ?_
        refine cS0_40 (d1 := 2) dX0_carryOn_55 (by omega) (Nat.le_of_ble_eq_true rfl) ?_
        refine c_mustGo hX hT hW (RX.o16 hT hm hR) (GP.o16 hm hG) hg ?_
        refine j_if_ne (tgt := 64) dX0_carryOn_58 (by decide) (fun h58 => ?_) (fun h58 => ?_)
        · refine j_aload_n dX0_carryOn_64 rfl rfl ?_
          refine gR0_74 (kT0 hT) dX0_carryOn_65 (xT_wares hX hT) ?_
          refine j_iload dX0_carryOn_68 rfl ?_
          refine j_aald (C := RX1) (kT6 hT) (by decide) (fun _ => rfl) (inT (lT6 hT) (show g < 5 by omega) (by omega)) (mr_nI (by omega) (xT_g hX hT (show g < 5 by omega))) dX0_carryOn_70 (by decide) ?_
          refine j_astore (lv2 := [_, _, _, _, _, _, _, _, _, _, _, _]) dX0_carryOn_71 (by decide) rfl rfl ?_
          refine j_aload_n dX0_carryOn_73 rfl rfl ?_
          refine j_iload dX0_carryOn_74 rfl ?_
          refine cV0_68 (d1 := 1) rfl dX0_carryOn_76 (by omega) (Nat.le_of_ble_eq_true rfl) ?_
          refine c_place hX hW (GP.o16 hm hG) hg ?_
          refine j_istore (lv2 := [_, _, _, _, _, _, _, _, _, _, _, _]) dX0_carryOn_79 (by decide) rfl rfl ?_
          refine j_aload_n dX0_carryOn_81 rfl rfl ?_
          refine gR0_99 (kT0 hT) dX0_carryOn_82 (xT_lanes hX hT) ?_
          refine j_iload dX0_carryOn_85 rfl ?_
          refine j_iload dX0_carryOn_87 rfl ?_
          refine cV0_103 (d1 := 1) (kT2 hT) dX0_carryOn_89 (by omega) (Nat.le_of_ble_eq_true rfl) ?_
          refine c_between hX hT ha6 hv6 (v := nI (fw _)) (by rw [hm (T + 4) (by rcases hT with rfl | rfl <;> omega)]; exact hf _ (by omega)) ?_
          refine j_aload_n dX0_carryOn_92 rfl rfl ?_
          refine gR0_99 (kT0 hT) dX0_carryOn_93 (xT_lanes hX hT) ?_
          refine j_iload dX0_carryOn_96 rfl ?_
          refine j_aload dX0_carryOn_98 rfl ?_
          refine gI0_78 (kG hT (show g < 5 by omega)) dX0_carryOn_100 ?_
          refine cV0_103 (d1 := 1) (kT2 hT) dX0_carryOn_103 (by omega) (Nat.le_of_ble_eq_true rfl) ?_
          rw [((RX.o16 hT hm hR).go hg).2.2]
          refine c_between hX hT hv6 ht6 (v := nI (fw _)) (by rw [hm (T + 4) (by rcases hT with rfl | rfl <;> omega)]; exact hf _ (by omega)) ?_
          refine j_iadd dX0_carryOn_106 ?_
          rw [nI_add]
          refine j_istore (lv2 := [_, _, _, _, _, _, _, _, _, _, _, _]) dX0_carryOn_107 (by decide) rfl rfl ?_
          refine j_aload dX0_carryOn_109 rfl ?_
          refine gI0_108 (kG hT (show g < 5 by omega)) dX0_carryOn_111 ?_
          refine j_aload_n dX0_carryOn_114 rfl rfl ?_
          refine gR0_83 (kT0 hT) dX0_carryOn_115 (xT_persons hX hT) ?_
          refine j_iload_n dX0_carryOn_118 rfl rfl ?_
          refine j_aald (C := RX3) (kT5 hT) (by decide) (fun _ => rfl) (inT (lT5 hT) (show p < 6 by omega) (by omega)) (mr_nI (by omega) (xT_p hX hT (show p < 6 by omega))) dX0_carryOn_119 (by decide) ?_
          refine cV0_111 (d1 := 1) (kP hT (show p < 6 by omega)) dX0_carryOn_120 (by omega) (Nat.le_of_ble_eq_true rfl) ?_
          refine c_strength P1.1 P1.2.2.2.2.1 P1.2.2.2.2.2.1 (by have := P1.2.2.2.2.2.2.2.1; omega) (by have := P1.2.2.2.2.2.2.2.2.1; omega) ?_
          refine j_icmp_gt (tgt := 157) dX0_carryOn_123 (by decide) (fun h123 => ?_) (fun h123 => ?_)
          · refine j_iinc1 (lv2 := [_, _, _, _, _, _, _, _, _, _, _, _]) dX0_carryOn_157 rfl (by decide) rfl rfl ?_
            refine j_goto (tgt := 31) dX0_carryOn_160 (by decide) ?_
            rw [nI_1]
            first
              | exact ih _ _ _ m2 (hm2.tr hm) hs2
              | (rw [bit_tst ld (by omega) g (by omega)] at h48
                 rw [if_neg (by unfold coK; rw [h48]; simp)] at ih
                 exact ih _ _ _ m hm hs)
              | (rw [bN_eq0, Bool.not_eq_false] at h58
                 first
                   | (rw [((RX.o16 hT hm hR).go hg).1, nI_ltI (by split <;> omega) (by omega)] at h123
                      rw [if_neg (by unfold coK; rw [decide_eq_false (p := t 8 g ≤ str t p) (by have h9 : str t p < t 8 g := h123; omega)]; simp)] at ih
                      exact ih _ _ _ m hm hs)
                   | (rw [show (1000000 : Int32) = nI 1000000 from rfl, nI_leI (by omega) (by omega)] at h130
                      first
                        | (rw [if_neg (by unfold coK mor; rw [decide_eq_false (p := fw (6 * a + v (6 + g)) + fw (6 * v (6 + g) + t 10 g) < 1000000) (by omega)]; simp)] at ih
                           exact ih _ _ _ m hm hs)))
              | (rw [bN_eq0] at h58
                 rw [if_neg (by unfold coK; rw [h58]; simp)] at ih
                 exact ih _ _ _ m hm hs)
          · refine j_iload dX0_carryOn_126 rfl ?_
            refine j_ldc wd1019 dX0_carryOn_128 ?_
            refine j_icmp_ge (tgt := 157) dX0_carryOn_130 (by decide) (fun h130 => ?_) (fun h130 => ?_)
            · refine j_iinc1 (lv2 := [_, _, _, _, _, _, _, _, _, _, _, _]) dX0_carryOn_157 rfl (by decide) rfl rfl ?_
              refine j_goto (tgt := 31) dX0_carryOn_160 (by decide) ?_
              rw [nI_1]
              first
                | exact ih _ _ _ m2 (hm2.tr hm) hs2
                | (rw [bit_tst ld (by omega) g (by omega)] at h48
                   rw [if_neg (by unfold coK; rw [h48]; simp)] at ih
                   exact ih _ _ _ m hm hs)
                | (rw [bN_eq0, Bool.not_eq_false] at h58
                   first
                     | (rw [((RX.o16 hT hm hR).go hg).1, nI_ltI (by split <;> omega) (by omega)] at h123
                        rw [if_neg (by unfold coK; rw [decide_eq_false (p := t 8 g ≤ str t p) (by have h9 : str t p < t 8 g := h123; omega)]; simp)] at ih
                        exact ih _ _ _ m hm hs)
                     | (rw [show (1000000 : Int32) = nI 1000000 from rfl, nI_leI (by omega) (by omega)] at h130
                        first
                          | (rw [if_neg (by unfold coK mor; rw [decide_eq_false (p := fw (6 * a + v (6 + g)) + fw (6 * v (6 + g) + t 10 g) < 1000000) (by omega)]; simp)] at ih
                             exact ih _ _ _ m hm hs)))
                | (rw [bN_eq0] at h58
                   rw [if_neg (by unfold coK; rw [h58]; simp)] at ih
                   exact ih _ _ _ m hm hs)
            · refine j_aload_n dX0_carryOn_133 rfl rfl ?_
              refine j_aload_n dX0_carryOn_134 rfl rfl ?_
              refine j_aload_n dX0_carryOn_135 rfl rfl ?_
              refine j_iload_n dX0_carryOn_136 rfl rfl ?_
              refine j_aload dX0_carryOn_137 rfl ?_
              refine gI0_78 (kG hT (show g < 5 by omega)) dX0_carryOn_139 ?_
              refine j_iload dX0_carryOn_142 rfl ?_
              refine j_iconst (v := 1) dX0_carryOn_144 (by decide) ?_
              refine j_iload dX0_carryOn_145 rfl ?_
              refine j_ishl dX0_carryOn_147 ?_
              refine j_ior dX0_carryOn_148 ?_
              refine j_iload dX0_carryOn_149 rfl ?_
              refine j_iload dX0_carryOn_151 rfl ?_
              refine j_iadd dX0_carryOn_153 ?_
              refine cV0_95 (d1 := n + 3) rfl dX0_carryOn_154 (by omega) (Nat.le_of_ble_eq_true rfl) ?_
              rw [bit_tst ld (by omega) g (by omega)] at h48
              rw [bN_eq0, Bool.not_eq_false] at h58
              rw [((RX.o16 hT hm hR).go hg).1, nI_ltI (by split <;> omega) (by omega)] at h123
              rw [show (1000000 : Int32) = nI 1000000 from rfl, nI_leI (by omega) (by omega)] at h130
              rw [if_pos (by unfold coK mor; rw [h58, decide_eq_true (p := t 8 g ≤ str t p) (by have h9 : ¬ str t p < t 8 g := h123; omega), decide_eq_true (p := fw (6 * a + v (6 + g)) + fw (6 * v (6 + g) + t 10 g) < 1000000) (by omega)]; simpa using h48)] at ih
              rw [((RX.o16 hT hm hR).go hg).2.2, bit_set ld (by omega) g (by omega), nI_add]
              have hld2 : ld ||| 2 ^ g < 32 := Nat.or_lt_two_pow (n := 5) hld (Nat.pow_lt_pow_right (by omega) (show g < 5 by omega))
              have hpo := pop_or ld hld g (by omega) (by simpa using h48)
              refine ihn (t 10 g) (ld ||| 2 ^ g) (sum + mor t fw v a g) W2 m _ (RX.o16 hT hm hR) (GP.o16 hm hG) (fun i hi => by rw [hm (T + 4) (by rcases hT with rfl | rfl <;> omega)]; exact hf i hi) ht6 hld2 (by omega) (by unfold mor; omega) hle2 hs (fun m2 hm2 hs2 => ?_)
              refine j_iinc1 (lv2 := [_, _, _, _, _, _, _, _, _, _, _, _]) dX0_carryOn_157 rfl (by decide) rfl rfl ?_
              refine j_goto (tgt := 31) dX0_carryOn_160 (by decide) ?_
              rw [nI_1]
              first
                | exact ih _ _ _ m2 (hm2.tr hm) hs2
                | (rw [bit_tst ld (by omega) g (by omega)] at h48
                   rw [if_neg (by unfold coK; rw [h48]; simp)] at ih
                   exact ih _ _ _ m hm hs)
                | (rw [bN_eq0, Bool.not_eq_false] at h58
                   first
                     | (rw [((RX.o16 hT hm hR).go hg).1, nI_ltI (by split <;> omega) (by omega)] at h123
                        rw [if_neg (by unfold coK; rw [decide_eq_false (p := t 8 g ≤ str t p) (by have h9 : str t p < t 8 g := h123; omega)]; simp)] at ih
                        exact ih _ _ _ m hm hs)
                     | (rw [show (1000000 : Int32) = nI 1000000 from rfl, nI_leI (by omega) (by omega)] at h130
                        first
                          | (rw [if_neg (by unfold coK mor; rw [decide_eq_false (p := fw (6 * a + v (6 + g)) + fw (6 * v (6 + g) + t 10 g) < 1000000) (by omega)]; simp)] at ih
                             exact ih _ _ _ m hm hs)))
                | (rw [bN_eq0] at h58
                   rw [if_neg (by unfold coK; rw [h58]; simp)] at ih
                   exact ih _ _ _ m hm hs)
        · refine j_goto (tgt := 157) dX0_carryOn_61 (by decide) ?_
          refine j_iinc1 (lv2 := [_, _, _, _, _, _, _, _, _, _, _, _]) dX0_carryOn_157 rfl (by decide) rfl rfl ?_
          refine j_goto (tgt := 31) dX0_carryOn_160 (by decide) ?_
          rw [nI_1]
          first
            | exact ih _ _ _ m2 (hm2.tr hm) hs2
            | (rw [bit_tst ld (by omega) g (by omega)] at h48
               rw [if_neg (by unfold coK; rw [h48]; simp)] at ih
               exact ih _ _ _ m hm hs)
            | (rw [bN_eq0, Bool.not_eq_false] at h58
               first
                 | (rw [((RX.o16 hT hm hR).go hg).1, nI_ltI (by split <;> omega) (by omega)] at h123
                    rw [if_neg (by unfold coK; rw [decide_eq_false (p := t 8 g ≤ str t p) (by have h9 : str t p < t 8 g := h123; omega)]; simp)] at ih
                    exact ih _ _ _ m hm hs)
                 | (rw [show (1000000 : Int32) = nI 1000000 from rfl, nI_leI (by omega) (by omega)] at h130
                    first
                      | (rw [if_neg (by unfold coK mor; rw [decide_eq_false (p := fw (6 * a + v (6 + g)) + fw (6 * v (6 + g) + t 10 g) < 1000000) (by omega)]; simp)] at ih
                         exact ih _ _ _ m hm hs)))
            | (rw [bN_eq0] at h58
               rw [if_neg (by unfold coK; rw [h58]; simp)] at ih
               exact ih _ _ _ m hm hs)
    · skip
      refine j_iload dX0_carryOn_31 rfl ?_
      refine j_aload_n dX0_carryOn_33 rfl rfl ?_
      refine gI0_35 (kT0 hT) dX0_carryOn_34 ?_
      refine j_icmp_ge (tgt := 163) dX0_carryOn_37 (by decide) (fun _ => ?_) (fun h37 => absurd (by rw [(RX.o16 hT hm hR).goods]; exact nI_le (Nat.le_refl _) (by omega)) h37)
      refine j_vret rfl dX0_carryOn_163 ?_
      exact hp m hm hs
    · rw [← hW1]
      unfold upN
      by_cases hik : i = 32 * p + ld
      · subst hik; rw [up_at, if_pos rfl]
      · rw [up_ne _ _ hik, if_neg hik]; exact hWm i hi
end C0
