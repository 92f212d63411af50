/-! the class: Carrying.tryGood, soonestOf -/
section C0c
variable {G : GG} {ml : ML} {mr : MR} {dom : List Nat} {T : Nat} {t : TW} {v : Nat → Nat}
/-- soonest, tried, best, loads -/
abbrev S4 : Type := Nat × (Nat → Int32) × (Nat → Int32) × (Nat → Nat)
def updI (f : Nat → Int32) (k : Nat) (x : Int32) : Nat → Int32 := fun j => if j = k then x else f j
def cp5 (f g : Nat → Int32) : Nat → Int32 := fun i => if i < 5 then f i else g i
def tg (t : TW) (v W : Nat → Nat) (bd : Nat) : Nat → Nat → Nat → S4 → S4
  | 0, _, la, S => if S.1 ≤ la ∨ S.1 ≤ bd then S else (la, S.2.1, cp5 S.2.1 S.2.2.1, S.2.2.2)
  | n + 1, g, la, S => if S.1 ≤ la ∨ S.1 ≤ bd then S else if mgo t v g then fu (fun p S => if W (32 * p + (S.2.2.2 p ||| 2 ^ g)) < 1000000 then ((tg t v W bd n (g + 1) (max la (W (32 * p + (S.2.2.2 p ||| 2 ^ g)))) (S.1, updI S.2.1 g (nI p), S.2.2.1, upN S.2.2.2 p (S.2.2.2 p ||| 2 ^ g))).1, (tg t v W bd n (g + 1) (max la (W (32 * p + (S.2.2.2 p ||| 2 ^ g)))) (S.1, updI S.2.1 g (nI p), S.2.2.1, upN S.2.2.2 p (S.2.2.2 p ||| 2 ^ g))).2.1, (tg t v W bd n (g + 1) (max la (W (32 * p + (S.2.2.2 p ||| 2 ^ g)))) (S.1, updI S.2.1 g (nI p), S.2.2.1, upN S.2.2.2 p (S.2.2.2 p ||| 2 ^ g))).2.2.1, upN (tg t v W bd n (g + 1) (max la (W (32 * p + (S.2.2.2 p ||| 2 ^ g)))) (S.1, updI S.2.1 g (nI p), S.2.2.1, upN S.2.2.2 p (S.2.2.2 p ||| 2 ^ g))).2.2.2 p (S.2.2.2 p)) else S) (t 0 5) S else tg t v W bd n (g + 1) la (S.1, updI S.2.1 g (-2), S.2.2.1, S.2.2.2)
def okS (S : S4) : Prop := S.1 ≤ 1000000 ∧ ∀ p, S.2.2.2 p < 32
theorem or_32 {a g : Nat} (ha : a < 32) (hg : g < 5) : a ||| 2 ^ g < 32 := Nat.or_lt_two_pow (n := 5) ha (Nat.pow_lt_pow_right (by omega) hg)
theorem tg_ok {W : Nat → Nat} {bd : Nat} : ∀ n g la S, g + n ≤ 5 → la ≤ 1000000 → okS S → okS (tg t v W bd n g la S) := by
  intro n
  induction n with
  | zero =>
    intro g la S _ hla h
    unfold tg; split
    · exact h
    · exact ⟨hla, h.2⟩
  | succ n ih =>
    intro g la S hg hla h
    unfold tg; split
    · exact h
    · split
      · refine fu_inv (I := okS) (fun p S h => ?_) _ h
        split
        · rename_i hc
          have h2 := ih (g + 1) (max la (W (32 * p + (S.2.2.2 p ||| 2 ^ g)))) (S.1, updI S.2.1 g (nI p), S.2.2.1, upN S.2.2.2 p (S.2.2.2 p ||| 2 ^ g)) (by omega) (by omega) ⟨h.1, fun q => by
            show upN _ _ _ q < 32
            unfold upN; split
            · exact or_32 (h.2 p) (by omega)
            · exact h.2 q⟩
          refine ⟨h2.1, fun q => ?_⟩
          show upN _ _ _ q < 32
          unfold upN; split
          · exact h.2 p
          · exact h2.2 q
        · exact h
      · exact ih (g + 1) la _ (by omega) hla h
/-- the memory holds the search's state -/
def MS (m : MI) (S : S4) : Prop := m 12 4 = nI S.1 ∧ (∀ i, i < 5 → m 14 i = S.2.1 i) ∧ (∀ i, i < 5 → m 13 i = S.2.2.1 i) ∧ ∀ p, p < 6 → m 15 p = nI (S.2.2.2 p)
def offT (m mi : MI) : Prop := (∀ n, n ≠ 12 → n ≠ 13 → n ≠ 14 → n ≠ 15 → m n = mi n) ∧ ∀ j, j ≠ 4 → m 12 j = mi 12 j
theorem offT.rf (m : MI) : offT m m := ⟨fun _ _ _ _ _ => rfl, fun _ _ => rfl⟩
theorem offT.tr {m m2 m3 : MI} (h : offT m m2) (h2 : offT m2 m3) : offT m m3 := ⟨fun n a b c d => (h.1 n a b c d).trans (h2.1 n a b c d), fun j hj => (h.2 j hj).trans (h2.2 j hj)⟩
theorem offT.u14 {m : MI} {k : Nat} {x : Int32} : offT (up m 14 k x) m := ⟨fun n _ _ c _ => up_off _ _ c, fun j _ => by rw [up_off _ _ (by decide)]⟩
theorem offT.u15 {m : MI} {k : Nat} {x : Int32} : offT (up m 15 k x) m := ⟨fun n _ _ _ d => up_off _ _ d, fun j _ => by rw [up_off _ _ (by decide)]⟩
theorem MS.u14 {m : MI} {S : S4} {k : Nat} {x : Int32} (h : MS m S) : MS (up m 14 k x) (S.1, updI S.2.1 k x, S.2.2.1, S.2.2.2) := by
  refine ⟨by rw [up_off _ _ (by decide)]; exact h.1, fun i hi => ?_, fun i hi => by rw [up_off _ _ (by decide)]; exact h.2.2.1 i hi, fun p hp => by rw [up_off _ _ (by decide)]; exact h.2.2.2 p hp⟩
  show _ = updI _ _ _ i
  unfold updI
  by_cases hik : i = k
  · subst hik; rw [up_at, if_pos rfl]
  · rw [up_ne _ _ hik, if_neg hik]; exact h.2.1 i hi
theorem MS.u15 {m : MI} {S : S4} {k x : Nat} (h : MS m S) : MS (up m 15 k (nI x)) (S.1, S.2.1, S.2.2.1, upN S.2.2.2 k x) := by
  refine ⟨by rw [up_off _ _ (by decide)]; exact h.1, fun i hi => by rw [up_off _ _ (by decide)]; exact h.2.1 i hi, fun i hi => by rw [up_off _ _ (by decide)]; exact h.2.2.1 i hi, fun p hp => ?_⟩
  show _ = nI (upN _ _ _ p)
  unfold upN
  by_cases hik : p = k
  · subst hik; rw [up_at, if_pos rfl]
  · rw [up_ne _ _ hik, if_neg hik]; exact h.2.2.2 p hp
theorem RX.oT {m mi : MI} (hT : TT T) (hm : offT m mi) (hR : RX mi T t) : RX m T t := RX_off (fun j => hm.1 _ (by rcases hT with rfl | rfl <;> omega) (by rcases hT with rfl | rfl <;> omega) (by rcases hT with rfl | rfl <;> omega) (by rcases hT with rfl | rfl <;> omega)) hR
theorem GP.oT {m mi : MI} (hm : offT m mi) (hG : GP mi t v) : GP m t v := fun g hg => by rw [hm.1 9 (by decide) (by decide) (by decide) (by decide)]; exact hG g hg
theorem c_tryGood {W : Nat → Nat} {bd : Nat} (hX : XR mr) (hT : TT T) (hW : WT t) (hle : le6 W) (hb6 : bd ≤ 1000000) : ∀ (n g la d : Nat) (S : S4) (mi : MI) (post : PT), RX mi T t → GP mi t v → g + n = t 0 6 → n + 3 ≤ d → la ≤ 1000000 → (∀ i, i < 192 → mi 16 i = nI (W i)) → mi 12 5 = nI bd → okS S → MS mi S → (∀ m, offT m mi → MS m (tg t v W bd n g la S) → post none m ml mr dom) → CT G d 0 0 yX0_tryGood cX0_tryGood 8 none [.ref 12, .ref T, .ref 8, .int (nI g), .int (nI la)] mi ml mr dom post := by
  have w := hW.1
  intro n
  induction n with
  | zero =>
    intro g la d S mi post hR hG hgn hd3 hla hWm hbd hok hS hp
    simp only [tg] at hp
    refine enter 3 (by decide) rfl rfl (fun X => ?_)
    refine j_iload dX0_tryGood_0 rfl ?_
    refine j_aload_n dX0_tryGood_2 rfl rfl ?_
    refine gI0_24 rfl dX0_tryGood_3 ?_
    refine j_icmp_ge (tgt := 20) dX0_tryGood_6 (by decide) (fun h6 => ?_) (fun h6 => ?_)
    · refine j_vret rfl dX0_tryGood_20 ?_
      rw [hS.1, nI_leI (by have := hok.1; omega) (by omega)] at h6
      first
        | (rw [if_pos (Or.inl h6)] at hp; exact hp mi (offT.rf mi) hS)
        | (rw [hbd, hS.1, nI_ltI (by omega) (by have := hok.1; omega)] at h17
           rw [if_pos (Or.inr (by omega))] at hp; exact hp mi (offT.rf mi) hS)
    · refine j_aload_n dX0_tryGood_9 rfl rfl ?_
      refine gI0_28 rfl dX0_tryGood_10 ?_
      refine j_aload_n dX0_tryGood_13 rfl rfl ?_
      refine gI0_24 rfl dX0_tryGood_14 ?_
      refine j_icmp_lt (tgt := 21) dX0_tryGood_17 (by decide) (fun h17 => ?_) (fun h17 => ?_)
      · refine j_iload_n dX0_tryGood_21 rfl rfl ?_
        refine j_aload_n dX0_tryGood_22 rfl rfl ?_
        refine gI0_35 (kT0 hT) dX0_tryGood_23 ?_
        refine j_icmp_lt (tgt := 50) dX0_tryGood_26 (by decide) (fun h26 => absurd (by rw [hR.goods] at h26; exact h26) (nI_nlt (by omega) (by omega))) (fun _ => ?_)
        refine j_aload_n dX0_tryGood_29 rfl rfl ?_
        refine j_iload dX0_tryGood_30 rfl ?_
        refine pI0_24 rfl dX0_tryGood_32 ?_
        refine j_aload_n dX0_tryGood_35 rfl rfl ?_
        refine gR0_15 rfl dX0_tryGood_36 (x_tried hX) ?_
        refine j_iconst (v := 0) dX0_tryGood_39 (by decide) ?_
        refine j_aload_n dX0_tryGood_40 rfl rfl ?_
        refine gR0_9 rfl dX0_tryGood_41 (x_best hX) ?_
        refine j_iconst (v := 0) dX0_tryGood_44 (by decide) ?_
        refine j_iconst (v := 5) dX0_tryGood_45 (by decide) ?_
        refine j_copy wdC0_115 rfl rfl (by decide) (by decide) (by decide) (by decide) (by decide) dX0_tryGood_46 (by omega) (Nat.le_of_ble_eq_true rfl) ?_
        refine j_vret rfl dX0_tryGood_49 ?_
        rw [hS.1, nI_leI (by have := hok.1; omega) (by omega)] at h6
        rw [hbd, hS.1, nI_ltI (by omega) (by have := hok.1; omega)] at h17
        rw [if_neg (by omega)] at hp
        refine hp _ ⟨fun n a b c d => ?_, fun j hj => ?_⟩ ⟨?_, fun i hi => ?_, fun i hi => ?_, fun p hp => ?_⟩
        · rw [cpm_off _ b, up_off _ _ a]
        · rw [cpm_off _ (by decide), up_ne _ _ hj]
        · rw [cpm_off _ (by decide), up_at]
        · rw [cpm_off _ (by decide), up_off _ _ (by decide)]; exact hS.2.1 i hi
        · rw [cpm_row, pk_cpy_in (by show 0 ≤ i; exact Nat.zero_le i) (by show i < 0 + (Int32.toNatClampNeg 5); exact Nat.lt_of_lt_of_le hi (by decide)), up_off _ _ (by decide)]
          show mi 14 (0 + (i - 0)) = cp5 S.2.1 S.2.2.1 i
          rw [cp5, if_pos hi, Nat.sub_zero, Nat.zero_add]; exact hS.2.1 i hi
        · rw [cpm_off _ (by decide), up_off _ _ (by decide)]; exact hS.2.2.2 p hp
      · refine j_vret rfl dX0_tryGood_20 ?_
        rw [hS.1, nI_leI (by have := hok.1; omega) (by omega)] at h6
        first
          | (rw [if_pos (Or.inl h6)] at hp; exact hp mi (offT.rf mi) hS)
          | (rw [hbd, hS.1, nI_ltI (by omega) (by have := hok.1; omega)] at h17
             rw [if_pos (Or.inr (by omega))] at hp; exact hp mi (offT.rf mi) hS)
  | succ n ihn =>
    intro g la d S mi post hR hG hgn hd3 hla hWm hbd hok hS hp
    have hg : g < t 0 6 := by omega
    simp only [tg] at hp
    refine enter 3 (by decide) rfl rfl (fun X => ?_)
    have hloop : (∀ m, offT m mi → MS m (fu (fun p S => if W (32 * p + (S.2.2.2 p ||| 2 ^ g)) < 1000000 then ((tg t v W bd n (g + 1) (max la (W (32 * p + (S.2.2.2 p ||| 2 ^ g)))) (S.1, updI S.2.1 g (nI p), S.2.2.1, upN S.2.2.2 p (S.2.2.2 p ||| 2 ^ g))).1, (tg t v W bd n (g + 1) (max la (W (32 * p + (S.2.2.2 p ||| 2 ^ g)))) (S.1, updI S.2.1 g (nI p), S.2.2.1, upN S.2.2.2 p (S.2.2.2 p ||| 2 ^ g))).2.1, (tg t v W bd n (g + 1) (max la (W (32 * p + (S.2.2.2 p ||| 2 ^ g)))) (S.1, updI S.2.1 g (nI p), S.2.2.1, upN S.2.2.2 p (S.2.2.2 p ||| 2 ^ g))).2.2.1, upN (tg t v W bd n (g + 1) (max la (W (32 * p + (S.2.2.2 p ||| 2 ^ g)))) (S.1, updI S.2.1 g (nI p), S.2.2.1, upN S.2.2.2 p (S.2.2.2 p ||| 2 ^ g))).2.2.2 p (S.2.2.2 p)) else S) (t 0 5) S) → post none m ml mr dom) → J cX0_tryGood 8 yX0_tryGood.cls yX0_tryGood.name none d G X post 0 0 mi ml mr dom 82 [some (.ref 12), some (.ref T), some (.ref 8), some (.int (nI g)), some (.int (nI la)), some (.int (nI 0)), none, none] [] := by
      intro hp
      refine fl (σ := S4) (n := t 0 5) (s0 := S) (I := okS) (F := (fun p S => if W (32 * p + (S.2.2.2 p ||| 2 ^ g)) < 1000000 then ((tg t v W bd n (g + 1) (max la (W (32 * p + (S.2.2.2 p ||| 2 ^ g)))) (S.1, updI S.2.1 g (nI p), S.2.2.1, upN S.2.2.2 p (S.2.2.2 p ||| 2 ^ g))).1, (tg t v W bd n (g + 1) (max la (W (32 * p + (S.2.2.2 p ||| 2 ^ g)))) (S.1, updI S.2.1 g (nI p), S.2.2.1, upN S.2.2.2 p (S.2.2.2 p ||| 2 ^ g))).2.1, (tg t v W bd n (g + 1) (max la (W (32 * p + (S.2.2.2 p ||| 2 ^ g)))) (S.1, updI S.2.1 g (nI p), S.2.2.1, upN S.2.2.2 p (S.2.2.2 p ||| 2 ^ g))).2.2.1, upN (tg t v W bd n (g + 1) (max la (W (32 * p + (S.2.2.2 p ||| 2 ^ g)))) (S.1, updI S.2.1 g (nI p), S.2.2.1, upN S.2.2.2 p (S.2.2.2 p ||| 2 ^ g))).2.2.2 p (S.2.2.2 p)) else S)) (H := fun (p : Nat) (S : S4) => ∀ z6 z7 : Option Value, ∀ m : MI, offT m mi → MS m S → J cX0_tryGood 8 yX0_tryGood.cls yX0_tryGood.name none d G X post 0 0 m ml mr dom 82 [some (.ref 12), some (.ref T), some (.ref 8), some (.int (nI g)), some (.int (nI la)), some (.int (nI p)), z6, z7] []) hok (fun p S h => ?_) (fun p hp1 S hok ih z6 z7 m hm hS => ?_) (fun z6 z7 m hm hS => ?_) none none mi (offT.rf mi) hS
      · split
        · have h2 := tg_ok (t := t) (v := v) (W := W) (bd := bd) n (g + 1) (max la (W (32 * p + (S.2.2.2 p ||| 2 ^ g)))) (S.1, updI S.2.1 g (nI p), S.2.2.1, upN S.2.2.2 p (S.2.2.2 p ||| 2 ^ g)) (by omega) (by omega) ⟨h.1, fun q => by
            show upN _ _ _ q < 32
            unfold upN; split
            · exact or_32 (h.2 p) (by omega)
            · exact h.2 q⟩
          refine ⟨h2.1, fun q => ?_⟩
          show upN _ _ _ q < 32
          unfold upN; split
          · exact h.2 p
          · exact h2.2 q
        · exact h
      · have hlo := or_32 (hok.2 p) (show g < 5 by omega)
        have hbl := hle (32 * p + (S.2.2.2 p ||| 2 ^ g))
        obtain ⟨be, hbe⟩ : ∃ be, W (32 * p + (S.2.2.2 p ||| 2 ^ g)) = be := ⟨_, rfl⟩
        refine j_iload dX0_tryGood_82 rfl ?_
        refine j_aload_n dX0_tryGood_84 rfl rfl ?_
        refine gI0_44 (kT0 hT) dX0_tryGood_85 ?_
        refine j_icmp_ge (tgt := 178) dX0_tryGood_88 (by decide) (fun h88 => absurd (by rw [(RX.oT hT hm hR).people] at h88; exact h88) (nI_ge hp1 (by omega))) (fun _ => ?_)
        refine j_aload_n dX0_tryGood_91 rfl rfl ?_
        refine gR0_18 rfl dX0_tryGood_92 (x_loads hX) ?_
        refine j_iload dX0_tryGood_95 rfl ?_
        refine j_iald rfl (inT (a := 15) (N := 6) rfl (show p < 6 by omega) (by omega)) dX0_tryGood_97 ?_
        rw [nI_clamp (by omega), hS.2.2.2 p (by omega)]
        refine j_istore (lv2 := [_, _, _, _, _, _, _, _]) dX0_tryGood_98 (by decide) rfl rfl ?_
        refine j_aload_n dX0_tryGood_100 rfl rfl ?_
        refine gR0_21 rfl dX0_tryGood_101 (x_minutes hX) ?_
        refine j_iload dX0_tryGood_104 rfl ?_
        refine j_bipush (v := 32) dX0_tryGood_106 (by decide) ?_
        refine j_imul dX0_tryGood_108 ?_
        refine j_iload dX0_tryGood_109 rfl ?_
        refine j_iconst (v := 1) dX0_tryGood_111 (by decide) ?_
        refine j_iload_n dX0_tryGood_112 rfl rfl ?_
        refine j_ishl dX0_tryGood_113 ?_
        refine j_ior dX0_tryGood_114 ?_
        rw [bit_set _ (by have := hok.2 p; omega) _ (by omega)]
        refine j_iadd dX0_tryGood_115 ?_
        rw [ix32]
        refine j_iald rfl (inT (a := 16) (N := 192) rfl (show 32 * p + (S.2.2.2 p ||| 2 ^ g) < 192 by omega) (by omega)) dX0_tryGood_116 ?_
        rw [nI_clamp (by omega), hm.1 16 (by decide) (by decide) (by decide) (by decide), hWm _ (by omega), hbe]
        refine j_istore (lv2 := [_, _, _, _, _, _, _, _]) dX0_tryGood_117 (by decide) rfl rfl ?_
        refine j_iload dX0_tryGood_119 rfl ?_
        refine j_ldc wd1019 dX0_tryGood_121 ?_
        refine j_icmp_ge (tgt := 172) dX0_tryGood_123 (by decide) (fun h123 => ?_) (fun h123 => ?_)
        · refine j_iinc1 (lv2 := [_, _, _, _, _, _, _, _]) dX0_tryGood_172 rfl (by decide) rfl rfl ?_
          refine j_goto (tgt := 82) dX0_tryGood_175 (by decide) ?_
          rw [nI_1]
          first
            | (rw [nI_clamp (by omega)]
               exact ih _ _ _ (offT.u15.tr (hm2.tr (offT.u15.tr (offT.u14.tr hm)))) hS2.u15)
            | (rw [show (1000000 : Int32) = nI 1000000 from rfl, nI_leI (by omega) (by omega)] at h123
               rw [if_neg (by rw [hbe]; omega)] at ih
               exact ih _ _ m hm hS)
        · refine j_aload_n dX0_tryGood_126 rfl rfl ?_
          refine gR0_15 rfl dX0_tryGood_127 (x_tried hX) ?_
          refine j_iload_n dX0_tryGood_130 rfl rfl ?_
          refine j_iload dX0_tryGood_131 rfl ?_
          refine j_iast rfl (inT (a := 14) (N := 5) rfl (show g < 5 by omega) (by omega)) dX0_tryGood_133 ?_
          refine j_aload_n dX0_tryGood_134 rfl rfl ?_
          refine gR0_18 rfl dX0_tryGood_135 (x_loads hX) ?_
          refine j_iload dX0_tryGood_138 rfl ?_
          refine j_iload dX0_tryGood_140 rfl ?_
          refine j_iconst (v := 1) dX0_tryGood_142 (by decide) ?_
          refine j_iload_n dX0_tryGood_143 rfl rfl ?_
          refine j_ishl dX0_tryGood_144 ?_
          refine j_ior dX0_tryGood_145 ?_
          refine j_iast rfl (inT (a := 15) (N := 6) rfl (show p < 6 by omega) (by omega)) dX0_tryGood_146 ?_
          refine j_aload_n dX0_tryGood_147 rfl rfl ?_
          refine j_aload_n dX0_tryGood_148 rfl rfl ?_
          refine j_aload_n dX0_tryGood_149 rfl rfl ?_
          refine j_iload_n dX0_tryGood_150 rfl rfl ?_
          refine j_iconst (v := 1) dX0_tryGood_151 (by decide) ?_
          refine j_iadd dX0_tryGood_152 ?_
          refine j_iload dX0_tryGood_153 rfl ?_
          refine j_iload dX0_tryGood_155 rfl ?_
          refine j_mmax0_51 dX0_tryGood_157 (by omega) (Nat.le_of_ble_eq_true rfl) ?_
          rw [imax_nI (by omega) (by omega)]
          refine cV0_57 (d1 := d - 1) rfl dX0_tryGood_160 (by omega) (Nat.le_of_ble_eq_true rfl) ?_
          rw [show (1000000 : Int32) = nI 1000000 from rfl, nI_leI (by omega) (by omega)] at h123
          rw [if_pos (by rw [hbe]; omega)] at ih
          rw [hbe] at ih
          rw [nI_clamp (by omega), nI_clamp (by omega), bit_set _ (by have := hok.2 p; omega) _ (by omega), nI_1]
          refine ihn (g + 1) (max la be) (d - 1) (S.1, updI S.2.1 g (nI p), S.2.2.1, upN S.2.2.2 p (S.2.2.2 p ||| 2 ^ g)) _ _ (RX.oT hT (offT.u15.tr (offT.u14.tr hm)) hR) (GP.oT (offT.u15.tr (offT.u14.tr hm)) hG) (by omega) (by omega) (by omega) (fun i hi => by rw [up_off _ _ (by decide), up_off _ _ (by decide), hm.1 16 (by decide) (by decide) (by decide) (by decide)]; exact hWm i hi) (by rw [up_off _ _ (by decide), up_off _ _ (by decide), hm.2 5 (by decide)]; exact hbd) ⟨hok.1, fun q => ?_⟩ hS.u14.u15 (fun m2 hm2 hS2 => ?_)
          · show upN _ _ _ q < 32
            unfold upN; split
            · exact or_32 (hok.2 p) (by omega)
            · exact hok.2 q
          refine j_aload_n dX0_tryGood_163 rfl rfl ?_
          refine gR0_18 rfl dX0_tryGood_164 (x_loads hX) ?_
          refine j_iload dX0_tryGood_167 rfl ?_
          refine j_iload dX0_tryGood_169 rfl ?_
          refine j_iast rfl (inT (a := 15) (N := 6) rfl (show p < 6 by omega) (by omega)) dX0_tryGood_171 ?_
          refine j_iinc1 (lv2 := [_, _, _, _, _, _, _, _]) dX0_tryGood_172 rfl (by decide) rfl rfl ?_
          refine j_goto (tgt := 82) dX0_tryGood_175 (by decide) ?_
          rw [nI_1]
          first
            | (rw [nI_clamp (by omega)]
               exact ih _ _ _ (offT.u15.tr (hm2.tr (offT.u15.tr (offT.u14.tr hm)))) hS2.u15)
            | (rw [show (1000000 : Int32) = nI 1000000 from rfl, nI_leI (by omega) (by omega)] at h123
               rw [if_neg (by rw [hbe]; omega)] at ih
               exact ih _ _ m hm hS)
      · skip
        refine j_iload dX0_tryGood_82 rfl ?_
        refine j_aload_n dX0_tryGood_84 rfl rfl ?_
        refine gI0_44 (kT0 hT) dX0_tryGood_85 ?_
        refine j_icmp_ge (tgt := 178) dX0_tryGood_88 (by decide) (fun _ => ?_) (fun h88 => absurd (by rw [(RX.oT hT hm hR).people]; exact nI_le (Nat.le_refl _) (by omega)) h88)
        refine j_vret rfl dX0_tryGood_178 ?_
        exact hp m hm hS
    refine j_iload dX0_tryGood_0 rfl ?_
    refine j_aload_n dX0_tryGood_2 rfl rfl ?_
    refine gI0_24 rfl dX0_tryGood_3 ?_
    refine j_icmp_ge (tgt := 20) dX0_tryGood_6 (by decide) (fun h6 => ?_) (fun h6 => ?_)
    · refine j_vret rfl dX0_tryGood_20 ?_
      rw [hS.1, nI_leI (by have := hok.1; omega) (by omega)] at h6
      first
        | (rw [if_pos (Or.inl h6)] at hp; exact hp mi (offT.rf mi) hS)
        | (rw [hbd, hS.1, nI_ltI (by omega) (by have := hok.1; omega)] at h17
           rw [if_pos (Or.inr (by omega))] at hp; exact hp mi (offT.rf mi) hS)
    · refine j_aload_n dX0_tryGood_9 rfl rfl ?_
      refine gI0_28 rfl dX0_tryGood_10 ?_
      refine j_aload_n dX0_tryGood_13 rfl rfl ?_
      refine gI0_24 rfl dX0_tryGood_14 ?_
      refine j_icmp_lt (tgt := 21) dX0_tryGood_17 (by decide) (fun h17 => ?_) (fun h17 => ?_)
      · refine j_iload_n dX0_tryGood_21 rfl rfl ?_
        refine j_aload_n dX0_tryGood_22 rfl rfl ?_
        refine gI0_35 (kT0 hT) dX0_tryGood_23 ?_
        refine j_icmp_lt (tgt := 50) dX0_tryGood_26 (by decide) (fun _ => ?_) (fun h26 => absurd (by rw [hR.goods]; exact nI_lt hg (by omega)) h26)
        refine j_aload_n dX0_tryGood_50 rfl rfl ?_
        refine j_aload_n dX0_tryGood_51 rfl rfl ?_
        refine j_iload_n dX0_tryGood_52 rfl rfl ?_
        refine cS0_40 (d1 := 2) dX0_tryGood_53 (by omega) (Nat.le_of_ble_eq_true rfl) ?_
        refine c_mustGo hX hT hW hR hG hg ?_
        refine j_if_ne (tgt := 79) dX0_tryGood_56 (by decide) (fun h56 => ?_) (fun h56 => ?_)
        · refine j_iconst (v := 0) dX0_tryGood_79 (by decide) ?_
          refine j_istore (lv2 := [_, _, _, _, _, _, _, _]) dX0_tryGood_80 (by decide) rfl rfl ?_
          rw [hS.1, nI_leI (by have := hok.1; omega) (by omega)] at h6
          rw [hbd, hS.1, nI_ltI (by omega) (by have := hok.1; omega)] at h17
          rw [if_neg (by omega)] at hp
          rw [bN_eq0, Bool.not_eq_false] at h56
          rw [if_pos h56] at hp
          exact hloop hp
        · refine j_aload_n dX0_tryGood_59 rfl rfl ?_
          refine gR0_15 rfl dX0_tryGood_60 (x_tried hX) ?_
          refine j_iload_n dX0_tryGood_63 rfl rfl ?_
          refine j_bipush (v := -2) dX0_tryGood_64 (by decide) ?_
          refine j_iast rfl (inT (a := 14) (N := 5) rfl (show g < 5 by omega) (by omega)) dX0_tryGood_66 ?_
          refine j_aload_n dX0_tryGood_67 rfl rfl ?_
          refine j_aload_n dX0_tryGood_68 rfl rfl ?_
          refine j_aload_n dX0_tryGood_69 rfl rfl ?_
          refine j_iload_n dX0_tryGood_70 rfl rfl ?_
          refine j_iconst (v := 1) dX0_tryGood_71 (by decide) ?_
          refine j_iadd dX0_tryGood_72 ?_
          refine j_iload dX0_tryGood_73 rfl ?_
          refine cV0_57 (d1 := d - 1) rfl dX0_tryGood_75 (by omega) (Nat.le_of_ble_eq_true rfl) ?_
          rw [hS.1, nI_leI (by have := hok.1; omega) (by omega)] at h6
          rw [hbd, hS.1, nI_ltI (by omega) (by have := hok.1; omega)] at h17
          rw [if_neg (by omega)] at hp
          rw [bN_eq0] at h56
          rw [if_neg (by rw [h56]; decide)] at hp
          rw [nI_1, nI_clamp (by omega)]
          refine ihn (g + 1) la (d - 1) (S.1, updI S.2.1 g (-2), S.2.2.1, S.2.2.2) (up mi 14 g (-2)) _ (RX.oT hT offT.u14 hR) (GP.oT offT.u14 hG) (by omega) (by omega) hla (fun i hi => by rw [up_off _ _ (by decide)]; exact hWm i hi) (by rw [up_off _ _ (by decide)]; exact hbd) hok hS.u14 (fun m2 hm2 hS2 => ?_)
          refine j_vret rfl dX0_tryGood_78 ?_
          exact hp m2 (hm2.tr offT.u14) hS2
      · refine j_vret rfl dX0_tryGood_20 ?_
        rw [hS.1, nI_leI (by have := hok.1; omega) (by omega)] at h6
        first
          | (rw [if_pos (Or.inl h6)] at hp; exact hp mi (offT.rf mi) hS)
          | (rw [hbd, hS.1, nI_ltI (by omega) (by have := hok.1; omega)] at h17
             rw [if_pos (Or.inr (by omega))] at hp; exact hp mi (offT.rf mi) hS)
def bndF (t : TW) (v W : Nat → Nat) (g b : Nat) : Nat := if mgo t v g then max b (qk W g (t 0 5)) else b
def bnd (t : TW) (v W : Nat → Nat) : Nat := fu (bndF t v W) (t 0 6) 0
def offC (m mi : MI) : Prop := ∀ n, n ≠ 12 → n ≠ 13 → n ≠ 14 → n ≠ 15 → n ≠ 16 → m n = mi n
theorem RX.oC {m mi : MI} (hT : TT T) (hm : offC m mi) (hR : RX mi T t) : RX m T t := RX_off (fun j => hm _ (by rcases hT with rfl | rfl <;> omega) (by rcases hT with rfl | rfl <;> omega) (by rcases hT with rfl | rfl <;> omega) (by rcases hT with rfl | rfl <;> omega) (by rcases hT with rfl | rfl <;> omega)) hR
theorem GP.oC {m mi : MI} (hm : offC m mi) (hG : GP mi t v) : GP m t v := fun g hg => by rw [hm 9 (by decide) (by decide) (by decide) (by decide) (by decide)]; exact hG g hg
theorem c_soonestOf {mi : MI} {post : PT} {fw W lo : Nat → Nat} {tr be : Nat → Int32} (hX : XR mr) (hT : TT T) (hW : WT t) (hR : RX mi T t) (hG : GP mi t v) (hfl : ∀ i, fw i ≤ 1000000) (hf : ∀ i, i < 36 → mi (T + 4) i = nI (fw i)) (hle : le6 W) (hWm : ∀ i, i < 192 → mi 16 i = nI (W i)) (htr : ∀ i, i < 5 → mi 14 i = tr i) (hbe : ∀ i, i < 5 → mi 13 i = be i) (hlo : ∀ p, lo p < 32) (hlm : ∀ p, p < 6 → mi 15 p = nI (lo p)) (hp : ∀ m, offC m mi → MS m (tg t v (wAll t fw v W) (bnd t v (wAll t fw v W)) (t 0 6) 0 0 (1000000, tr, be, lo)) → post (some (.int (nI (tg t v (wAll t fw v W) (bnd t v (wAll t fw v W)) (t 0 6) 0 0 (1000000, tr, be, lo)).1))) m ml mr dom) : CT G 11 0 0 yX0_soonestOf cX0_soonestOf 4 (some .int) [.ref 12, .ref T, .ref 8] mi ml mr dom post := by
  have w := hW.1
  refine enter 1 (by decide) rfl rfl (fun X => ?_)
  refine j_aload_n dX0_soonestOf_0 rfl rfl ?_
  refine j_aload_n dX0_soonestOf_1 rfl rfl ?_
  refine j_aload_n dX0_soonestOf_2 rfl rfl ?_
  refine cV0_31 (d1 := 10) rfl dX0_soonestOf_3 (by decide) (Nat.le_of_ble_eq_true rfl) ?_
  refine c_weighAll hX hT hW hR hG hfl hf hle hWm (fun m hm hs => ?_)
  refine j_aload_n dX0_soonestOf_6 rfl rfl ?_
  refine j_iconst (v := 0) dX0_soonestOf_7 (by decide) ?_
  refine pI0_28 rfl dX0_soonestOf_8 ?_
  refine j_iconst (v := 0) dX0_soonestOf_11 (by decide) ?_
  refine j_istore_n (lv2 := [_, _, _, _]) dX0_soonestOf_12 rfl (by decide) rfl rfl ?_
  skip
  have hle2 := wAll_le (t := t) (v := v) (fw := fw) hle
  generalize wAll t fw v W = W2 at hle2 hs hp
  have hbF : ∀ g b, b ≤ 1000000 → bndF t v W2 g b ≤ 1000000 := fun g b h => by
    have := qk_le W2 g (t 0 5)
    unfold bndF; split <;> omega
  refine fl (n := t 0 6) (s0 := 0) (I := fun b => b ≤ 1000000) (F := bndF t v W2) (H := fun g b => J cX0_soonestOf 4 yX0_soonestOf.cls yX0_soonestOf.name (some .int) 11 G X post 0 0 (up m 12 5 (nI b)) ml mr dom 13 [some (.ref 12), some (.ref T), some (.ref 8), some (.int (nI g))] []) (by omega) hbF (fun g hg b hbb ih => ?_) ?_
  · have hoB : offC (up m 12 5 (nI b)) mi := fun n a _ _ _ e => (up_off _ _ a).trans (hm n e)
    have hRb := RX.oC hT hoB hR
    have hGb := GP.oC hoB hG
    have hsb : ∀ i, i < 192 → up m 12 5 (nI b) 16 i = nI (W2 i) := fun i hi => by rw [up_off _ _ (by decide)]; exact hs i hi
    refine j_iload_n dX0_soonestOf_13 rfl rfl ?_
    refine j_aload_n dX0_soonestOf_14 rfl rfl ?_
    refine gI0_35 (kT0 hT) dX0_soonestOf_15 ?_
    refine j_icmp_ge (tgt := 56) dX0_soonestOf_18 (by decide) (fun h18 => absurd (by rw [hRb.goods] at h18; exact h18) (nI_ge hg (by omega))) (fun _ => ?_)
    refine j_aload_n dX0_soonestOf_21 rfl rfl ?_
    refine j_aload_n dX0_soonestOf_22 rfl rfl ?_
    refine j_iload_n dX0_soonestOf_23 rfl rfl ?_
    refine cS0_40 (d1 := 2) dX0_soonestOf_24 (by decide) (Nat.le_of_ble_eq_true rfl) ?_
    refine c_mustGo hX hT hW hRb hGb hg ?_
    refine j_if_eq (tgt := 50) dX0_soonestOf_27 (by decide) (fun h27 => ?_) (fun h27 => ?_)
    · refine j_iinc1 (lv2 := [_, _, _, _]) dX0_soonestOf_50 rfl (by decide) rfl rfl ?_
      refine j_goto (tgt := 13) dX0_soonestOf_53 (by decide) ?_
      rw [nI_1]
      first
        | (rw [bN_eq0] at h27; unfold bndF at ih; rw [if_neg (by rw [h27]; decide)] at ih; exact ih)
        | (rw [bN_eq0, Bool.not_eq_false] at h27; unfold bndF at ih; rw [if_pos h27] at ih
           rw [up_up]; exact ih)
    · refine j_aload_n dX0_soonestOf_30 rfl rfl ?_
      refine j_aload_n dX0_soonestOf_31 rfl rfl ?_
      refine gI0_28 rfl dX0_soonestOf_32 ?_
      rw [up_at]
      refine j_aload_n dX0_soonestOf_35 rfl rfl ?_
      refine j_aload_n dX0_soonestOf_36 rfl rfl ?_
      refine gI0_44 (kT0 hT) dX0_soonestOf_37 ?_
      refine j_iload_n dX0_soonestOf_40 rfl rfl ?_
      refine cV0_47 (d1 := 2) rfl dX0_soonestOf_41 (by decide) (Nat.le_of_ble_eq_true rfl) ?_
      rw [hRb.people]
      refine c_quickest hX (by omega) (by omega) hle2 hsb ?_
      refine j_mmax0_51 dX0_soonestOf_44 (by decide) (Nat.le_of_ble_eq_true rfl) ?_
      rw [imax_nI (by omega) (by have := qk_le W2 g (t 0 5); omega)]
      refine pI0_28 rfl dX0_soonestOf_47 ?_
      refine j_iinc1 (lv2 := [_, _, _, _]) dX0_soonestOf_50 rfl (by decide) rfl rfl ?_
      refine j_goto (tgt := 13) dX0_soonestOf_53 (by decide) ?_
      rw [nI_1]
      first
        | (rw [bN_eq0] at h27; unfold bndF at ih; rw [if_neg (by rw [h27]; decide)] at ih; exact ih)
        | (rw [bN_eq0, Bool.not_eq_false] at h27; unfold bndF at ih; rw [if_pos h27] at ih
           rw [up_up]; exact ih)
  · have hbb : fu (bndF t v W2) (t 0 6) 0 ≤ 1000000 := fu_inv (I := fun b => b ≤ 1000000) hbF _ (by omega)
    have hoB : offC (up m 12 5 (nI (fu (bndF t v W2) (t 0 6) 0))) mi := fun n a _ _ _ e => (up_off _ _ a).trans (hm n e)
    have hRb := RX.oC hT hoB hR
    have hoC : offC (up (up m 12 5 (nI (fu (bndF t v W2) (t 0 6) 0))) 12 4 (nI 1000000)) mi := fun n a b c d e => (up_off _ _ a).trans (hoB n a b c d e)
    refine j_iload_n dX0_soonestOf_13 rfl rfl ?_
    refine j_aload_n dX0_soonestOf_14 rfl rfl ?_
    refine gI0_35 (kT0 hT) dX0_soonestOf_15 ?_
    refine j_icmp_ge (tgt := 56) dX0_soonestOf_18 (by decide) (fun _ => ?_) (fun h18 => absurd (by rw [hRb.goods]; exact nI_le (Nat.le_refl _) (by omega)) h18)
    refine j_aload_n dX0_soonestOf_56 rfl rfl ?_
    refine j_ldc wd1019 dX0_soonestOf_57 ?_
    refine pI0_24 rfl dX0_soonestOf_59 ?_
    refine j_aload_n dX0_soonestOf_62 rfl rfl ?_
    refine j_aload_n dX0_soonestOf_63 rfl rfl ?_
    refine j_aload_n dX0_soonestOf_64 rfl rfl ?_
    refine j_iconst (v := 0) dX0_soonestOf_65 (by decide) ?_
    refine j_iconst (v := 0) dX0_soonestOf_66 (by decide) ?_
    refine cV0_57 (d1 := 8) rfl dX0_soonestOf_67 (by decide) (Nat.le_of_ble_eq_true rfl) ?_
    rw [show (0 : Int32) = nI 0 from rfl, show (1000000 : Int32) = nI 1000000 from rfl]
    refine c_tryGood hX hT hW hle2 hbb (t 0 6) 0 0 8 (1000000, tr, be, lo) _ _ (RX.oC hT hoC hR) (GP.oC hoC hG) (by omega) (by omega) (by omega) (fun i hi => by rw [up_off _ _ (by decide), up_off _ _ (by decide)]; exact hs i hi) (by rw [up_ne _ _ (by decide), up_at]) ⟨Nat.le_refl _, hlo⟩ ⟨by rw [up_at], fun i hi => ?_, fun i hi => ?_, fun p hp => ?_⟩ (fun m2 hm2 hS2 => ?_)
    · rw [up_off _ _ (by decide), up_off _ _ (by decide), hm 14 (by decide)]; exact htr i hi
    · rw [up_off _ _ (by decide), up_off _ _ (by decide), hm 13 (by decide)]; exact hbe i hi
    · rw [up_off _ _ (by decide), up_off _ _ (by decide), hm 15 (by decide)]; exact hlm p hp
    refine j_aload_n dX0_soonestOf_70 rfl rfl ?_
    refine gI0_24 rfl dX0_soonestOf_71 ?_
    rw [hS2.1]
    refine j_iret rfl dX0_soonestOf_74 ?_
    refine hp m2 (fun n a b c d e => ?_) hS2
    rw [hm2.1 n a b c d, up_off _ _ a, up_off _ _ a]; exact hm n e
end C0c
