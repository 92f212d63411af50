/-! the class: Lanes.goRound, shortestRound -/
theorem up_up (mi : MI) (a j : Nat) (x y : Int32) : up (up mi a j x) a j y = up mi a j y := by
  funext n i; unfold up; by_cases h : n = a
  · subst h; by_cases h2 : i = j <;> simp [h2]
  · simp [h]
theorem up_self {mi : MI} {a j : Nat} {x : Int32} (h : mi a j = x) : up mi a j x = mi := by
  funext n i; unfold up; by_cases hn : n = a
  · subst hn; by_cases h2 : i = j
    · subst h2; simp [h]
    · simp [h2]
  · simp [hn]
theorem bit_clr : ∀ n, n < 64 → ∀ i, i < 6 → n.testBit i = true → nI n &&& (((1 : Int32) <<< (nI i &&& 31)) ^^^ (-1)) = nI (n - 2 ^ i) := by decide +kernel
theorem pop_clr : ∀ n, n < 64 → ∀ i, i < 6 → n.testBit i = true → popc (n - 2 ^ i) + 1 = popc n := by decide +kernel
theorem pop_0 : ∀ n, n < 64 → popc n = 0 → n = 0 := by decide +kernel
def gr (fw : Nat → Nat) (s : Nat) : Nat → Nat → Nat → Nat → Nat → Nat
  | 0, a, _, sum, best => if best ≤ sum then best else min best (sum + fw (6 * a + s))
  | n + 1, a, os, sum, best => if best ≤ sum then best else if os = 0 then min best (sum + fw (6 * a + s)) else fu (fun g b => if os.testBit g then gr fw s n g (os - 2 ^ g) (sum + fw (6 * a + g)) b else b) 6 best
theorem gr_le (fw : Nat → Nat) (s : Nat) : ∀ n a os sum best, gr fw s n a os sum best ≤ best := by
  intro n
  induction n with
  | zero => intro a os sum best; unfold gr; split <;> omega
  | succ n ih =>
    intro a os sum best
    unfold gr
    split
    · omega
    · split
      · omega
      · refine fu_inv (I := fun b => b ≤ best) (fun g b hb => ?_) 6 (Nat.le_refl best)
        split
        · exact Nat.le_trans (ih _ _ _ _) hb
        · exact hb
section C2b
variable {G : GG} {mi : MI} {ml : ML} {mr : MR} {dom : List Nat} {T : Nat} {t : TW}
theorem c_goRound {fw : Nat → Nat} {s : Nat} (hX : XR mr) (hT : TT T) (hf : ∀ i, i < 36 → mi (T + 4) i = nI (fw i)) (hle : ∀ i, fw i ≤ 1000000) (hs6 : s < 6) : ∀ (n a os sum dep best : Nat) (post : PT), a < 6 → os < 64 → popc os ≤ n → dep + popc os ≤ 6 → sum ≤ dep * 1000000 → best ≤ 1000000 → post none (up mi (T + 2) 3 (nI (gr fw s n a os sum best))) ml mr dom → CT G (n + 2) 0 0 yX2_goRound cX2_goRound 7 none [.ref (T + 2), .int (nI s), .int (nI a), .int (nI os), .int (nI sum), .int (nI dep)] (up mi (T + 2) 3 (nI best)) ml mr dom post := by
  intro n
  induction n with
  | zero =>
    intro a os sum dep best post ha6 hos64 hpo hdp hsum hb hp
    have hos0 := pop_0 os hos64 (by omega)
    refine enter 1 (by decide) rfl rfl (fun X => ?_)
    refine j_iload dX2_goRound_0 rfl ?_
    refine j_bipush (v := 6) dX2_goRound_2 (by decide) ?_
    refine j_icmp_gt (tgt := 16) dX2_goRound_4 (by decide) (fun h4 => absurd h4 (nI_nlt (a := 6) (by omega) (by decide))) (fun _ => ?_)
    refine j_iload dX2_goRound_7 rfl ?_
    refine j_aload_n dX2_goRound_9 rfl rfl ?_
    refine gI2_22 (kT2 hT) dX2_goRound_10 ?_
    rw [up_at]
    refine j_icmp_lt (tgt := 17) dX2_goRound_13 (by decide) (fun h13 => ?_) (fun h13 => ?_)
    · refine j_iload_n dX2_goRound_17 rfl rfl ?_
      refine j_if_ne (tgt := 42) dX2_goRound_18 (by decide) (fun h18 => absurd h18 (by rw [hos0]; decide : ¬ ¬ nI os = 0)) (fun _ => ?_)
      refine j_aload_n dX2_goRound_21 rfl rfl ?_
      refine j_aload_n dX2_goRound_22 rfl rfl ?_
      refine gI2_22 (kT2 hT) dX2_goRound_23 ?_
      rw [up_at]
      refine j_iload dX2_goRound_26 rfl ?_
      refine j_aload_n dX2_goRound_28 rfl rfl ?_
      refine j_iload_n dX2_goRound_29 rfl rfl ?_
      refine j_iload_n dX2_goRound_30 rfl rfl ?_
      refine cV2_36 (d1 := 1) (kT2 hT) dX2_goRound_31 (by omega) (Nat.le_of_ble_eq_true rfl) ?_
      refine c_between hX hT ha6 hs6 (v := nI (fw _)) (by rw [up_off _ _ (by omega)]; exact hf _ (by omega)) ?_
      refine j_iadd dX2_goRound_34 ?_
      rw [nI_add]
      refine j_mmin2_40 dX2_goRound_35 (by omega) (Nat.le_of_ble_eq_true rfl) ?_
      rw [imin_nI (by omega) (by have := hle (6 * a + s); omega)]
      refine pI2_22 (kT2 hT) dX2_goRound_38 ?_
      refine j_vret rfl dX2_goRound_41 ?_
      rw [nI_ltI (by omega) (by omega)] at h13
      simp only [gr] at hp
      rw [if_neg (by omega)] at hp
      rw [up_up]
      exact hp
    · refine j_vret rfl dX2_goRound_16 ?_
      rw [nI_ltI (by omega) (by omega)] at h13
      simp only [gr] at hp
      rw [if_pos (by omega)] at hp
      exact hp
  | succ n ihn =>
    intro a os sum dep best post ha6 hos64 hpo hdp hsum hb hp
    refine enter 1 (by decide) rfl rfl (fun X => ?_)
    have hloop : post none (up mi (T + 2) 3 (nI (fu (fun g b => if os.testBit g then gr fw s n g (os - 2 ^ g) (sum + fw (6 * a + g)) b else b) 6 best))) ml mr dom → J cX2_goRound 7 yX2_goRound.cls yX2_goRound.name none (n + 3) G X post 0 0 (up mi (T + 2) 3 (nI best)) ml mr dom 45 [some (.ref (T + 2)), some (.int (nI s)), some (.int (nI a)), some (.int (nI os)), some (.int (nI sum)), some (.int (nI dep)), some (.int (nI 0))] [] := by
      intro hp
      refine fl (n := 6) (s0 := best) (I := fun b => b ≤ 1000000) (F := fun g b => if os.testBit g then gr fw s n g (os - 2 ^ g) (sum + fw (6 * a + g)) b else b) (H := fun g b => J cX2_goRound 7 yX2_goRound.cls yX2_goRound.name none (n + 3) G X post 0 0 (up mi (T + 2) 3 (nI b)) ml mr dom 45 [some (.ref (T + 2)), some (.int (nI s)), some (.int (nI a)), some (.int (nI os)), some (.int (nI sum)), some (.int (nI dep)), some (.int (nI g))] []) hb (fun g b h => ?_) (fun g hg6 b hb ih => ?_) ?_
      · split
        · exact Nat.le_trans (gr_le _ _ _ _ _ _ _) h
        · exact h
      · skip
        refine j_iload dX2_goRound_45 rfl ?_
        refine j_bipush (v := 6) dX2_goRound_47 (by decide) ?_
        refine j_icmp_ge (tgt := 97) dX2_goRound_49 (by decide) (fun h49 => absurd h49 (nI_ge (a := g) (b := 6) hg6 (by decide))) (fun _ => ?_)
        refine j_iload_n dX2_goRound_52 rfl rfl ?_
        refine j_iload dX2_goRound_53 rfl ?_
        refine j_ishr dX2_goRound_55 ?_
        refine j_iconst (v := 1) dX2_goRound_56 (by decide) ?_
        refine j_iand dX2_goRound_57 ?_
        refine j_iconst (v := 1) dX2_goRound_58 (by decide) ?_
        refine j_icmp_ne (tgt := 91) dX2_goRound_59 (by decide) (fun h59 => ?_) (fun h59 => ?_)
        · refine j_iinc1 (lv2 := [_, _, _, _, _, _, _]) dX2_goRound_91 rfl (by decide) rfl rfl ?_
          refine j_goto (tgt := 45) dX2_goRound_94 (by decide) ?_
          rw [nI_1]
          first
            | (rw [if_neg (fun q => h59 (by rw [bit_tst os hos64 g (by omega)]; exact q))] at ih; exact ih)
            | exact ih
        · refine j_aload_n dX2_goRound_62 rfl rfl ?_
          refine j_iload_n dX2_goRound_63 rfl rfl ?_
          refine j_iload dX2_goRound_64 rfl ?_
          refine j_iload_n dX2_goRound_66 rfl rfl ?_
          refine j_iconst (v := 1) dX2_goRound_67 (by decide) ?_
          refine j_iload dX2_goRound_68 rfl ?_
          refine j_ishl dX2_goRound_70 ?_
          refine j_iconst (v := -1) dX2_goRound_71 (by decide) ?_
          refine j_ixor dX2_goRound_72 ?_
          refine j_iand dX2_goRound_73 ?_
          refine j_iload dX2_goRound_74 rfl ?_
          refine j_aload_n dX2_goRound_76 rfl rfl ?_
          refine j_iload_n dX2_goRound_77 rfl rfl ?_
          refine j_iload dX2_goRound_78 rfl ?_
          refine cV2_36 (d1 := 1) (kT2 hT) dX2_goRound_80 (by omega) (Nat.le_of_ble_eq_true rfl) ?_
          refine c_between hX hT ha6 hg6 (v := nI (fw _)) (by rw [up_off _ _ (by omega)]; exact hf _ (by omega)) ?_
          refine j_iadd dX2_goRound_83 ?_
          refine j_iload dX2_goRound_84 rfl ?_
          refine j_iconst (v := 1) dX2_goRound_86 (by decide) ?_
          refine j_iadd dX2_goRound_87 ?_
          refine cV2_45 (d1 := n + 2) (kT2 hT) dX2_goRound_88 (by omega) (Nat.le_of_ble_eq_true rfl) ?_
          rw [bit_tst os hos64 g (by omega)] at h59
          rw [bit_clr os hos64 g (by omega) h59, nI_add, nI_1]
          have hpc := pop_clr os hos64 g (by omega) h59
          have hfb := hle (6 * a + g)
          refine ihn g (os - 2 ^ g) (sum + fw (6 * a + g)) (dep + 1) b _ hg6 (Nat.lt_of_le_of_lt (Nat.sub_le _ _) hos64) (by omega) (by omega) (by omega) hb ?_
          rw [if_pos h59] at ih
          refine j_iinc1 (lv2 := [_, _, _, _, _, _, _]) dX2_goRound_91 rfl (by decide) rfl rfl ?_
          refine j_goto (tgt := 45) dX2_goRound_94 (by decide) ?_
          rw [nI_1]
          first
            | (rw [if_neg (fun q => h59 (by rw [bit_tst os hos64 g (by omega)]; exact q))] at ih; exact ih)
            | exact ih
      · skip
        refine j_iload dX2_goRound_45 rfl ?_
        refine j_bipush (v := 6) dX2_goRound_47 (by decide) ?_
        refine j_icmp_ge (tgt := 97) dX2_goRound_49 (by decide) (fun _ => ?_) (fun h49 => absurd (nI_le (a := 6) (b := 6) (Nat.le_refl 6) (by decide)) h49)
        refine j_vret rfl dX2_goRound_97 ?_
        exact hp
    refine j_iload dX2_goRound_0 rfl ?_
    refine j_bipush (v := 6) dX2_goRound_2 (by decide) ?_
    refine j_icmp_gt (tgt := 16) dX2_goRound_4 (by decide) (fun h4 => absurd h4 (nI_nlt (a := 6) (by omega) (by decide))) (fun _ => ?_)
    refine j_iload dX2_goRound_7 rfl ?_
    refine j_aload_n dX2_goRound_9 rfl rfl ?_
    refine gI2_22 (kT2 hT) dX2_goRound_10 ?_
    rw [up_at]
    refine j_icmp_lt (tgt := 17) dX2_goRound_13 (by decide) (fun h13 => ?_) (fun h13 => ?_)
    · refine j_iload_n dX2_goRound_17 rfl rfl ?_
      refine j_if_ne (tgt := 42) dX2_goRound_18 (by decide) (fun h18 => ?_) (fun h18 => ?_)
      · refine j_iconst (v := 0) dX2_goRound_42 (by decide) ?_
        refine j_istore (lv2 := [_, _, _, _, _, _, _]) dX2_goRound_43 (by decide) rfl rfl ?_
        rw [nI_ltI (by omega) (by omega)] at h13
        rw [show (0 : Int32) = nI 0 from rfl, nI_eq (by omega) (by omega)] at h18
        simp only [gr] at hp
        rw [if_neg (by omega), if_neg h18] at hp
        exact hloop hp
      · refine j_aload_n dX2_goRound_21 rfl rfl ?_
        refine j_aload_n dX2_goRound_22 rfl rfl ?_
        refine gI2_22 (kT2 hT) dX2_goRound_23 ?_
        rw [up_at]
        refine j_iload dX2_goRound_26 rfl ?_
        refine j_aload_n dX2_goRound_28 rfl rfl ?_
        refine j_iload_n dX2_goRound_29 rfl rfl ?_
        refine j_iload_n dX2_goRound_30 rfl rfl ?_
        refine cV2_36 (d1 := 1) (kT2 hT) dX2_goRound_31 (by omega) (Nat.le_of_ble_eq_true rfl) ?_
        refine c_between hX hT ha6 hs6 (v := nI (fw _)) (by rw [up_off _ _ (by omega)]; exact hf _ (by omega)) ?_
        refine j_iadd dX2_goRound_34 ?_
        rw [nI_add]
        refine j_mmin2_40 dX2_goRound_35 (by omega) (Nat.le_of_ble_eq_true rfl) ?_
        rw [imin_nI (by omega) (by have := hle (6 * a + s); omega)]
        refine pI2_22 (kT2 hT) dX2_goRound_38 ?_
        refine j_vret rfl dX2_goRound_41 ?_
        rw [nI_ltI (by omega) (by omega)] at h13
        rw [show (0 : Int32) = nI 0 from rfl, nI_eq (by omega) (by omega)] at h18
        simp only [gr] at hp
        rw [if_neg (by omega), if_pos h18] at hp
        rw [up_up]
        exact hp
    · refine j_vret rfl dX2_goRound_16 ?_
      rw [nI_ltI (by omega) (by omega)] at h13
      simp only [gr] at hp
      rw [if_pos (by omega)] at hp
      exact hp
theorem pop_6 : ∀ n, n < 64 → popc n ≤ 6 := by decide +kernel
def oth (fw : Nat → Nat) (h : Nat) : Nat := bst (fun g => decide (g ≠ h) && decide (fw (6 * h + g) < 1000000)) 6
def rndC (fw : Nat → Nat) (h : Nat) : Nat := gr fw h 6 h (oth fw h) 0 1000000
theorem c_shortestRound {fw : Nat → Nat} {h : Nat} {post : PT} (hX : XR mr) (hT : TT T) (hf : ∀ i, i < 36 → mi (T + 4) i = nI (fw i)) (hle : ∀ i, fw i ≤ 1000000) (hh6 : h < 6) (hp : post (some (.int (nI (rndC fw h)))) (up mi (T + 2) 3 (nI (rndC fw h))) ml mr dom) : CT G 9 0 0 yX2_shortestRound cX2_shortestRound 4 (some .int) [.ref (T + 2), .int (nI h)] mi ml mr dom post := by
  refine enter 2 (by decide) rfl rfl (fun X => ?_)
  refine j_iconst (v := 0) dX2_shortestRound_0 (by decide) ?_
  refine j_istore_n (lv2 := [_, _, _, _]) dX2_shortestRound_1 rfl (by decide) rfl rfl ?_
  refine j_iconst (v := 0) dX2_shortestRound_2 (by decide) ?_
  refine j_istore_n (lv2 := [_, _, _, _]) dX2_shortestRound_3 rfl (by decide) rfl rfl ?_
  skip
  obtain ⟨Pp, hPp⟩ : ∃ Pp : Nat → Bool, Pp = (fun g => decide (g ≠ h) && decide (fw (6 * h + g) < 1000000)) := ⟨_, rfl⟩
  refine lq (n := 6) (H := fun g => J cX2_shortestRound 4 yX2_shortestRound.cls yX2_shortestRound.name (some .int) 9 G X post 0 0 mi ml mr dom 4 [some (.ref (T + 2)), some (.int (nI h)), some (.int (nI (bst Pp g))), some (.int (nI g))] []) ?_ (fun g hg6 ih => ?_)
  · skip
    refine j_iload_n dX2_shortestRound_4 rfl rfl ?_
    refine j_bipush (v := 6) dX2_shortestRound_5 (by decide) ?_
    refine j_icmp_ge (tgt := 38) dX2_shortestRound_7 (by decide) (fun _ => ?_) (fun h7 => absurd (nI_le (a := 6) (b := 6) (Nat.le_refl 6) (by decide)) h7)
    refine j_aload_n dX2_shortestRound_38 rfl rfl ?_
    refine j_ldc wd772 dX2_shortestRound_39 ?_
    refine pI2_22 (kT2 hT) dX2_shortestRound_41 ?_
    refine j_aload_n dX2_shortestRound_44 rfl rfl ?_
    refine j_iload_n dX2_shortestRound_45 rfl rfl ?_
    refine j_iload_n dX2_shortestRound_46 rfl rfl ?_
    refine j_iload_n dX2_shortestRound_47 rfl rfl ?_
    refine j_iconst (v := 0) dX2_shortestRound_48 (by decide) ?_
    refine j_iconst (v := 0) dX2_shortestRound_49 (by decide) ?_
    refine cV2_45 (d1 := 8) (kT2 hT) dX2_shortestRound_50 (by decide) (Nat.le_of_ble_eq_true rfl) ?_
    rw [show (0 : Int32) = nI 0 from rfl, show (1000000 : Int32) = nI 1000000 from rfl]
    refine c_goRound hX hT hf hle hh6 6 h _ 0 0 1000000 _ hh6 (bst_lt Pp 6) (pop_6 _ (bst_lt Pp 6)) (by have := pop_6 _ (bst_lt Pp 6); omega) (by omega) (by omega) ?_
    refine j_aload_n dX2_shortestRound_53 rfl rfl ?_
    refine gI2_22 (kT2 hT) dX2_shortestRound_54 ?_
    rw [up_at]
    refine j_iret rfl dX2_shortestRound_57 ?_
    rw [hPp] at *
    exact hp
  · skip
    refine j_iload_n dX2_shortestRound_4 rfl rfl ?_
    refine j_bipush (v := 6) dX2_shortestRound_5 (by decide) ?_
    refine j_icmp_ge (tgt := 38) dX2_shortestRound_7 (by decide) (fun h7 => absurd h7 (nI_ge (a := g) (b := 6) hg6 (by decide))) (fun _ => ?_)
    refine j_iload_n dX2_shortestRound_10 rfl rfl ?_
    refine j_iload_n dX2_shortestRound_11 rfl rfl ?_
    refine j_icmp_eq (tgt := 32) dX2_shortestRound_12 (by decide) (fun h12 => ?_) (fun h12 => ?_)
    · refine j_iinc1 (lv2 := [_, _, _, _]) dX2_shortestRound_32 rfl (by decide) rfl rfl ?_
      refine j_goto (tgt := 4) dX2_shortestRound_35 (by decide) ?_
      rw [nI_1]
      rw [nI_eq (by omega) (by omega)] at h12
      first
        | (have e1 : Pp g = false := by rw [hPp]; simp [h12]
           rw [bst, e1] at ih; exact ih)
        | (rw [show (1000000 : Int32) = nI 1000000 from rfl, nI_leI (by omega) (by have := hle (6 * h + g); omega)] at h23
           first
             | (have e1 : Pp g = false := by rw [hPp]; simp only; rw [decide_eq_false (p := fw (6 * h + g) < 1000000) (by omega), Bool.and_false]
                rw [bst, e1] at ih; exact ih)
             | (have e1 : Pp g = true := by rw [hPp]; simp only; rw [decide_eq_true (p := fw (6 * h + g) < 1000000) (by omega), decide_eq_true h12]; rfl
                rw [bit_set _ (bst_256 Pp (by omega)) _ (by omega)]
                rw [bst, e1] at ih; exact ih))
    · refine j_aload_n dX2_shortestRound_15 rfl rfl ?_
      refine j_iload_n dX2_shortestRound_16 rfl rfl ?_
      refine j_iload_n dX2_shortestRound_17 rfl rfl ?_
      refine cV2_36 (d1 := 1) (kT2 hT) dX2_shortestRound_18 (by decide) (Nat.le_of_ble_eq_true rfl) ?_
      refine c_between hX hT hh6 hg6 (hf _ (by omega)) ?_
      refine j_ldc wd772 dX2_shortestRound_21 ?_
      refine j_icmp_ge (tgt := 32) dX2_shortestRound_23 (by decide) (fun h23 => ?_) (fun h23 => ?_)
      · refine j_iinc1 (lv2 := [_, _, _, _]) dX2_shortestRound_32 rfl (by decide) rfl rfl ?_
        refine j_goto (tgt := 4) dX2_shortestRound_35 (by decide) ?_
        rw [nI_1]
        rw [nI_eq (by omega) (by omega)] at h12
        first
          | (have e1 : Pp g = false := by rw [hPp]; simp [h12]
             rw [bst, e1] at ih; exact ih)
          | (rw [show (1000000 : Int32) = nI 1000000 from rfl, nI_leI (by omega) (by have := hle (6 * h + g); omega)] at h23
             first
               | (have e1 : Pp g = false := by rw [hPp]; simp only; rw [decide_eq_false (p := fw (6 * h + g) < 1000000) (by omega), Bool.and_false]
                  rw [bst, e1] at ih; exact ih)
               | (have e1 : Pp g = true := by rw [hPp]; simp only; rw [decide_eq_true (p := fw (6 * h + g) < 1000000) (by omega), decide_eq_true h12]; rfl
                  rw [bit_set _ (bst_256 Pp (by omega)) _ (by omega)]
                  rw [bst, e1] at ih; exact ih))
      · refine j_iload_n dX2_shortestRound_26 rfl rfl ?_
        refine j_iconst (v := 1) dX2_shortestRound_27 (by decide) ?_
        refine j_iload_n dX2_shortestRound_28 rfl rfl ?_
        refine j_ishl dX2_shortestRound_29 ?_
        refine j_ior dX2_shortestRound_30 ?_
        refine j_istore_n (lv2 := [_, _, _, _]) dX2_shortestRound_31 rfl (by decide) rfl rfl ?_
        refine j_iinc1 (lv2 := [_, _, _, _]) dX2_shortestRound_32 rfl (by decide) rfl rfl ?_
        refine j_goto (tgt := 4) dX2_shortestRound_35 (by decide) ?_
        rw [nI_1]
        rw [nI_eq (by omega) (by omega)] at h12
        first
          | (have e1 : Pp g = false := by rw [hPp]; simp [h12]
             rw [bst, e1] at ih; exact ih)
          | (rw [show (1000000 : Int32) = nI 1000000 from rfl, nI_leI (by omega) (by have := hle (6 * h + g); omega)] at h23
             first
               | (have e1 : Pp g = false := by rw [hPp]; simp only; rw [decide_eq_false (p := fw (6 * h + g) < 1000000) (by omega), Bool.and_false]
                  rw [bst, e1] at ih; exact ih)
               | (have e1 : Pp g = true := by rw [hPp]; simp only; rw [decide_eq_true (p := fw (6 * h + g) < 1000000) (by omega), decide_eq_true h12]; rfl
                  rw [bit_set _ (bst_256 Pp (by omega)) _ (by omega)]
                  rw [bst, e1] at ih; exact ih))
end C2b
