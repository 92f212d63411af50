/-! the class: Rows.countNight, count -/
section C7b
variable {G : GG} {ml : ML} {mr : MR} {dom : List Nat} {T : Nat} {t : TW}
/-- the next print of a night -/
def nxt (t : TW) (nt : Nat) : Nat → Nat → Nat
  | 0, k => k
  | n + 1, k => if k < t 0 8 ∧ t 16 k ≠ nt then nxt t nt n (k + 1) else k
theorem nxt_ge (t : TW) (nt : Nat) : ∀ n k, k ≤ nxt t nt n k := by
  intro n
  induction n with
  | zero => intro k; exact Nat.le_refl k
  | succ n ih => intro k; unfold nxt; split
                 · exact Nat.le_trans (Nat.le_succ k) (ih (k + 1))
                 · exact Nat.le_refl k
theorem nxt_le (t : TW) (nt : Nat) : ∀ n k, k ≤ t 0 8 → nxt t nt n k ≤ t 0 8 := by
  intro n
  induction n with
  | zero => intro k h; exact h
  | succ n ih => intro k h; unfold nxt; split
                 · rename_i hc; exact ih (k + 1) hc.1
                 · exact h
/-- how many rows a night's prints have, and in how many a print is a person's -/
def cnW (t : TW) (nt : Nat) : Nat → Nat → Nat → (Nat → Nat) → Nat × (Nat → Nat)
  | 0, _, _, W => (1, W)
  | n + 1, k0, out, W => if t 0 8 ≤ nxt t nt 5 k0 then (1, W) else fu (fun p s => if out.testBit p = false ∧ sut t p (nxt t nt 5 k0) = true then (s.1 + (cnW t nt n (nxt t nt 5 k0 + 1) (out ||| 2 ^ p) s.2).1, upN (cnW t nt n (nxt t nt 5 k0 + 1) (out ||| 2 ^ p) s.2).2 (6 * nxt t nt 5 k0 + p) ((cnW t nt n (nxt t nt 5 k0 + 1) (out ||| 2 ^ p) s.2).2 (6 * nxt t nt 5 k0 + p) + (cnW t nt n (nxt t nt 5 k0 + 1) (out ||| 2 ^ p) s.2).1)) else s) (t 0 5) (0, W)
theorem off1.tr {a : Nat} {m m2 m3 : MI} (h : off1 a m m2) (h2 : off1 a m2 m3) : off1 a m m3 := fun n hn => (h n hn).trans (h2 n hn)
theorem RX.o18 {m mi : MI} (hT : TT T) (hm : off1 18 m mi) (hR : RX mi T t) : RX m T t := RX_off (fun j => hm _ (by rcases hT with rfl | rfl <;> omega)) hR
theorem bit_t0 : ∀ n, n < 64 → ∀ i, i < 6 → ((nI n >>> (nI i &&& 31)) &&& 1 = 0) = (n.testBit i = false) := by
  have h : ∀ n, n < 64 → ∀ i, i < 6 → (decide ((nI n >>> (nI i &&& 31)) &&& 1 = 0)) = !(n.testBit i) := by decide +kernel
  intro n hn i hi
  have := h n hn i hi
  cases hb : n.testBit i
  · rw [hb] at this; simpa using this
  · rw [hb] at this; simpa using this
theorem cn_find {k0 nt out d : Nat} {X : Cx} {mi : MI} {post : PT} (hX : XR mr) (hT : TT T) (hW : WT t) (hR : RX mi T t) (hnt : nt ≤ 20) : ∀ n k, t 0 8 ≤ k + n → k < 100 → J cX7_countNight 9 yX7_countNight.cls yX7_countNight.name (some .int) d G X post 0 0 mi ml mr dom 32 [some (.ref 17), some (.ref T), some (.int (nI k0)), some (.int (nI nt)), some (.int (nI out)), some (.int (nI (nxt t nt n k))), none, none, none] [] → J cX7_countNight 9 yX7_countNight.cls yX7_countNight.name (some .int) d G X post 0 0 mi ml mr dom 3 [some (.ref 17), some (.ref T), some (.int (nI k0)), some (.int (nI nt)), some (.int (nI out)), some (.int (nI k)), none, none, none] [] := by
  have w := hW.1
  intro n
  induction n with
  | zero =>
    intro k hk hk9 h
    have hk2 : t 0 8 ≤ k := by omega
    rw [nxt] at h
    refine j_iload dX7_countNight_3 rfl ?_
    refine j_aload_n dX7_countNight_5 rfl rfl ?_
    refine gI7_31 (kT0 hT) dX7_countNight_6 ?_
    refine j_icmp_ge (tgt := 32) dX7_countNight_9 (by decide) (fun _ => ?_) (fun h9 => absurd (by rw [hR.prints]; exact nI_le (by omega) (by omega)) h9)
    exact h
  | succ n ih =>
    intro k hk hk9 h
    unfold nxt at h
    by_cases hc : k < t 0 8 ∧ t 16 k ≠ nt
    · rw [if_pos hc] at h
      refine j_iload dX7_countNight_3 rfl ?_
      refine j_aload_n dX7_countNight_5 rfl rfl ?_
      refine gI7_31 (kT0 hT) dX7_countNight_6 ?_
      refine j_icmp_ge (tgt := 32) dX7_countNight_9 (by decide) (fun h9 => absurd (by rw [hR.prints] at h9; exact h9) (nI_ge hc.1 (by omega))) (fun _ => ?_)
      refine j_aload_n dX7_countNight_12 rfl rfl ?_
      refine gR7_38 (kT0 hT) dX7_countNight_13 (xT_tracks hX hT) ?_
      refine j_iload dX7_countNight_16 rfl ?_
      refine j_aald (C := RX5) (kT8 hT) (by decide) (fun _ => rfl) (inT (lT8 hT) (show k < 5 by omega) (by omega)) (mr_nI (by omega) (xT_k hX hT (show k < 5 by omega))) dX7_countNight_18 (by decide) ?_
      refine gI7_42 (kK hT (show k < 5 by omega)) dX7_countNight_19 ?_
      refine j_iload_n dX7_countNight_22 rfl rfl ?_
      refine j_icmp_eq (tgt := 32) dX7_countNight_23 (by decide) (fun h23 => absurd (by rw [(hR.pr hc.1).2.2, nI_eq (by have := (hW.pr hc.1).2.2; omega) (by omega)] at h23; exact h23) hc.2) (fun _ => ?_)
      refine j_iinc1 (lv2 := [_, _, _, _, _, _, _, _, _]) dX7_countNight_26 rfl (by decide) rfl rfl ?_
      refine j_goto (tgt := 3) dX7_countNight_29 (by decide) ?_
      rw [nI_1]
      exact ih (k + 1) (by omega) (by omega) h
    · rw [if_neg hc] at h
      by_cases hkp : k < t 0 8
      · have hkn : t 16 k = nt := by
          by_cases q : t 16 k = nt
          · exact q
          · exact absurd ⟨hkp, q⟩ hc
        refine j_iload dX7_countNight_3 rfl ?_
        refine j_aload_n dX7_countNight_5 rfl rfl ?_
        refine gI7_31 (kT0 hT) dX7_countNight_6 ?_
        refine j_icmp_ge (tgt := 32) dX7_countNight_9 (by decide) (fun h9 => absurd (by rw [hR.prints] at h9; exact h9) (nI_ge hkp (by omega))) (fun _ => ?_)
        refine j_aload_n dX7_countNight_12 rfl rfl ?_
        refine gR7_38 (kT0 hT) dX7_countNight_13 (xT_tracks hX hT) ?_
        refine j_iload dX7_countNight_16 rfl ?_
        refine j_aald (C := RX5) (kT8 hT) (by decide) (fun _ => rfl) (inT (lT8 hT) (show k < 5 by omega) (by omega)) (mr_nI (by omega) (xT_k hX hT (show k < 5 by omega))) dX7_countNight_18 (by decide) ?_
        refine gI7_42 (kK hT (show k < 5 by omega)) dX7_countNight_19 ?_
        refine j_iload_n dX7_countNight_22 rfl rfl ?_
        refine j_icmp_eq (tgt := 32) dX7_countNight_23 (by decide) (fun _ => ?_) (fun h23 => absurd (by rw [(hR.pr hkp).2.2, hkn]) h23)
        exact h
      · skip
        refine j_iload dX7_countNight_3 rfl ?_
        refine j_aload_n dX7_countNight_5 rfl rfl ?_
        refine gI7_31 (kT0 hT) dX7_countNight_6 ?_
        refine j_icmp_ge (tgt := 32) dX7_countNight_9 (by decide) (fun _ => ?_) (fun h9 => absurd (by rw [hR.prints]; exact nI_le (by omega) (by omega)) h9)
        exact h
theorem c_countNight {nt : Nat} (hX : XR mr) (hT : TT T) (hW : WT t) (hnt : nt ≤ 20) : ∀ (n k0 out : Nat) (W : Nat → Nat) (mi : MI) (post : PT), RX mi T t → t 0 8 ≤ k0 + n → k0 ≤ 10 → out < 64 → mi 17 2 = nI (t 0 5) → (∀ i, i < 30 → mi 18 i = nI (W i)) → (∀ m, off1 18 m mi → (∀ i, i < 30 → m 18 i = nI ((cnW t nt n k0 out W).2 i)) → post (some (.int (nI (cnW t nt n k0 out W).1))) m ml mr dom) → CT G (n + 4) 0 0 yX7_countNight cX7_countNight 9 (some .int) [.ref 17, .ref T, .int (nI k0), .int (nI nt), .int (nI out)] mi ml mr dom post := by
  have w := hW.1
  intro n
  induction n with
  | zero =>
    intro k0 out W mi post hR hk hk0 hout hpe hWm hp
    refine enter 4 (by decide) rfl rfl (fun X => ?_)
    refine j_iload_n dX7_countNight_0 rfl rfl ?_
    refine j_istore (lv2 := [_, _, _, _, _, _, _, _, _]) dX7_countNight_1 (by decide) rfl rfl ?_
    skip
    refine cn_find hX hT hW hR hnt 5 k0 (by omega) (by omega) ?_
    have hkk := nxt_ge t nt 5 k0
    have hk5 : nxt t nt 5 k0 ≤ 10 + 5 := by
      have h9 : nxt t nt 5 k0 = k0 := by rw [nxt, if_neg (by omega)]
      omega
    generalize nxt t nt 5 k0 = k at hkk hk5 ⊢
    · skip
      refine j_iload dX7_countNight_32 rfl ?_
      refine j_aload_n dX7_countNight_34 rfl rfl ?_
      refine gI7_31 (kT0 hT) dX7_countNight_35 ?_
      refine j_icmp_lt (tgt := 43) dX7_countNight_38 (by decide) (fun h38 => absurd (by rw [hR.prints] at h38; exact h38) (nI_nlt (by omega) (by omega))) (fun _ => ?_)
      refine j_iconst (v := 1) dX7_countNight_41 (by decide) ?_
      refine j_iret rfl dX7_countNight_42 ?_
      exact hp mi (fun _ _ => rfl) hWm
  | succ n ihn =>
    intro k0 out W mi post hR hk hk0 hout hpe hWm hp
    refine enter 4 (by decide) rfl rfl (fun X => ?_)
    refine j_iload_n dX7_countNight_0 rfl rfl ?_
    refine j_istore (lv2 := [_, _, _, _, _, _, _, _, _]) dX7_countNight_1 (by decide) rfl rfl ?_
    skip
    refine cn_find hX hT hW hR hnt 5 k0 (by omega) (by omega) ?_
    have hkk := nxt_ge t nt 5 k0
    have hk5 : nxt t nt 5 k0 ≤ 15 := by
      by_cases h9 : k0 ≤ t 0 8
      · have := nxt_le t nt 5 k0 h9; omega
      · have h9 : nxt t nt 5 k0 = k0 := by rw [nxt, if_neg (by omega)]
        omega
    simp only [cnW] at hp
    generalize nxt t nt 5 k0 = k at hkk hk5 hp ⊢
    by_cases hkp : k < t 0 8
    · rw [if_neg (by omega)] at hp
      refine j_iload dX7_countNight_32 rfl ?_
      refine j_aload_n dX7_countNight_34 rfl rfl ?_
      refine gI7_31 (kT0 hT) dX7_countNight_35 ?_
      refine j_icmp_lt (tgt := 43) dX7_countNight_38 (by decide) (fun _ => ?_) (fun h38 => absurd (by rw [hR.prints]; exact nI_lt hkp (by omega)) h38)
      refine j_iconst (v := 0) dX7_countNight_43 (by decide) ?_
      refine j_istore (lv2 := [_, _, _, _, _, _, _, _, _]) dX7_countNight_44 (by decide) rfl rfl ?_
      refine j_iconst (v := 0) dX7_countNight_46 (by decide) ?_
      refine j_istore (lv2 := [_, _, _, _, _, _, _, _, _]) dX7_countNight_47 (by decide) rfl rfl ?_
      skip
      refine fl (σ := Nat × (Nat → Nat)) (n := t 0 5) (s0 := (0, W)) (I := fun _ => True) (F := (fun p s => if out.testBit p = false ∧ sut t p k = true then (s.1 + (cnW t nt n (k + 1) (out ||| 2 ^ p) s.2).1, upN (cnW t nt n (k + 1) (out ||| 2 ^ p) s.2).2 (6 * k + p) ((cnW t nt n (k + 1) (out ||| 2 ^ p) s.2).2 (6 * k + p) + (cnW t nt n (k + 1) (out ||| 2 ^ p) s.2).1)) else s)) (H := fun (p : Nat) (s : Nat × (Nat → Nat)) => ∀ z8 : Option Value, ∀ m : MI, off1 18 m mi → (∀ i, i < 30 → m 18 i = nI (s.2 i)) → J cX7_countNight 9 yX7_countNight.cls yX7_countNight.name (some .int) (n + 5) G X post 0 0 m ml mr dom 49 [some (.ref 17), some (.ref T), some (.int (nI k0)), some (.int (nI nt)), some (.int (nI out)), some (.int (nI k)), some (.int (nI s.1)), some (.int (nI p)), z8] []) trivial (fun _ _ _ => trivial) (fun p hp9 s _ ih z8 m hm hs => ?_) (fun z8 m hm hs => ?_) none mi (fun _ _ => rfl) hWm
      · skip
        refine j_iload dX7_countNight_49 rfl ?_
        refine j_aload_n dX7_countNight_51 rfl rfl ?_
        refine gI7_18 rfl dX7_countNight_52 ?_
        refine j_icmp_ge (tgt := 138) dX7_countNight_55 (by decide) (fun h55 => absurd (by rw [hm 17 (by decide), hpe] at h55; exact h55) (nI_ge hp9 (by omega))) (fun _ => ?_)
        refine j_iload dX7_countNight_58 rfl ?_
        refine j_iload dX7_countNight_60 rfl ?_
        refine j_ishr dX7_countNight_62 ?_
        refine j_iconst (v := 1) dX7_countNight_63 (by decide) ?_
        refine j_iand dX7_countNight_64 ?_
        refine j_if_ne (tgt := 132) dX7_countNight_65 (by decide) (fun h65 => ?_) (fun h65 => ?_)
        · refine j_iinc1 (lv2 := [_, _, _, _, _, _, _, _, _]) dX7_countNight_132 rfl (by decide) rfl rfl ?_
          refine j_goto (tgt := 49) dX7_countNight_135 (by decide) ?_
          rw [nI_1]
          first
            | (rw [show ((nI out >>> (nI p &&& 31)) &&& 1 = 0) = (out.testBit p = false) from bit_t0 out hout p (by omega)] at h65
               rw [if_neg (fun q => h65 q.1)] at ih
               exact ih _ m hm hs)
            | (rw [bN_eq0] at h85
               rw [if_neg (fun q => by rw [h85] at q; exact absurd q.2 (by decide))] at ih
               exact ih _ m hm hs)
            | (rw [nI_add]
               refine ih _ _ ((hm2.tr hm).up) (fun i hi => ?_)
               show _ = nI (upN _ _ _ i)
               unfold upN
               by_cases hik : i = 6 * k + p
               · subst hik; rw [up_at, if_pos rfl]
               · rw [up_ne _ _ hik, if_neg hik]; exact hs2 i hi)
        · refine j_aload_n dX7_countNight_68 rfl rfl ?_
          refine gR7_69 (kT0 hT) dX7_countNight_69 (xT_persons hX hT) ?_
          refine j_iload dX7_countNight_72 rfl ?_
          refine j_aald (C := RX3) (kT5 hT) (by decide) (fun _ => rfl) (inT (lT5 hT) (show p < 6 by omega) (by omega)) (mr_nI (by omega) (xT_p hX hT (show p < 6 by omega))) dX7_countNight_74 (by decide) ?_
          refine j_aload_n dX7_countNight_75 rfl rfl ?_
          refine gR7_38 (kT0 hT) dX7_countNight_76 (xT_tracks hX hT) ?_
          refine j_iload dX7_countNight_79 rfl ?_
          refine j_aald (C := RX5) (kT8 hT) (by decide) (fun _ => rfl) (inT (lT8 hT) (show k < 5 by omega) (by omega)) (mr_nI (by omega) (xT_k hX hT (show k < 5 by omega))) dX7_countNight_81 (by decide) ?_
          refine cS7_73 (d1 := 2) dX7_countNight_82 (by omega) (Nat.le_of_ble_eq_true rfl) ?_
          refine c_suits hX hT hW (RX.o18 hT hm hR) hp9 hkp ?_
          refine j_if_eq (tgt := 132) dX7_countNight_85 (by decide) (fun h85 => ?_) (fun h85 => ?_)
          · refine j_iinc1 (lv2 := [_, _, _, _, _, _, _, _, _]) dX7_countNight_132 rfl (by decide) rfl rfl ?_
            refine j_goto (tgt := 49) dX7_countNight_135 (by decide) ?_
            rw [nI_1]
            first
              | (rw [show ((nI out >>> (nI p &&& 31)) &&& 1 = 0) = (out.testBit p = false) from bit_t0 out hout p (by omega)] at h65
                 rw [if_neg (fun q => h65 q.1)] at ih
                 exact ih _ m hm hs)
              | (rw [bN_eq0] at h85
                 rw [if_neg (fun q => by rw [h85] at q; exact absurd q.2 (by decide))] at ih
                 exact ih _ m hm hs)
              | (rw [nI_add]
                 refine ih _ _ ((hm2.tr hm).up) (fun i hi => ?_)
                 show _ = nI (upN _ _ _ i)
                 unfold upN
                 by_cases hik : i = 6 * k + p
                 · subst hik; rw [up_at, if_pos rfl]
                 · rw [up_ne _ _ hik, if_neg hik]; exact hs2 i hi)
          · refine j_aload_n dX7_countNight_88 rfl rfl ?_
            refine j_aload_n dX7_countNight_89 rfl rfl ?_
            refine j_iload dX7_countNight_90 rfl ?_
            refine j_iconst (v := 1) dX7_countNight_92 (by decide) ?_
            refine j_iadd dX7_countNight_93 ?_
            refine j_iload_n dX7_countNight_94 rfl rfl ?_
            refine j_iload dX7_countNight_95 rfl ?_
            refine j_iconst (v := 1) dX7_countNight_97 (by decide) ?_
            refine j_iload dX7_countNight_98 rfl ?_
            refine j_ishl dX7_countNight_100 ?_
            refine j_ior dX7_countNight_101 ?_
            refine cV7_47 (d1 := n + 4) rfl dX7_countNight_102 (by omega) (Nat.le_of_ble_eq_true rfl) ?_
            rw [show ((nI out >>> (nI p &&& 31)) &&& 1 = 0) = (out.testBit p = false) from bit_t0 out hout p (by omega)] at h65
            rw [bN_eq0, Bool.not_eq_false] at h85
            rw [if_pos ⟨h65, h85⟩] at ih
            rw [nI_1, bit_set out (by omega) p (by omega)]
            have ho2 : out ||| 2 ^ p < 64 := Nat.or_lt_two_pow (n := 6) hout (Nat.pow_lt_pow_right (by omega) (show p < 6 by omega))
            refine ihn (k + 1) (out ||| 2 ^ p) s.2 m _ (RX.o18 hT hm hR) (by omega) (by omega) ho2 (by rw [hm 17 (by decide)]; exact hpe) hs (fun m2 hm2 hs2 => ?_)
            refine j_istore (lv2 := [_, _, _, _, _, _, _, _, _]) dX7_countNight_105 (by decide) rfl rfl ?_
            refine j_aload_n dX7_countNight_107 rfl rfl ?_
            refine gR7_9 rfl dX7_countNight_108 (x_ways hX) ?_
            refine j_iload dX7_countNight_111 rfl ?_
            refine j_bipush (v := 6) dX7_countNight_113 (by decide) ?_
            refine j_imul dX7_countNight_115 ?_
            refine j_iload dX7_countNight_116 rfl ?_
            refine j_iadd dX7_countNight_118 ?_
            rw [ix6]
            refine j_dup2 dX7_countNight_119 rfl rfl ?_
            refine j_iald rfl (inT (a := 18) (N := 30) rfl (show 6 * k + p < 30 by omega) (by omega)) dX7_countNight_120 ?_
            rw [nI_clamp (by omega), hs2 (6 * k + p) (by omega)]
            refine j_iload dX7_countNight_121 rfl ?_
            refine j_iadd dX7_countNight_123 ?_
            rw [nI_add]
            refine j_iast rfl (inT (a := 18) (N := 30) rfl (show 6 * k + p < 30 by omega) (by omega)) dX7_countNight_124 ?_
            rw [nI_clamp (by omega)]
            refine j_iload dX7_countNight_125 rfl ?_
            refine j_iload dX7_countNight_127 rfl ?_
            refine j_iadd dX7_countNight_129 ?_
            refine j_istore (lv2 := [_, _, _, _, _, _, _, _, _]) dX7_countNight_130 (by decide) rfl rfl ?_
            refine j_iinc1 (lv2 := [_, _, _, _, _, _, _, _, _]) dX7_countNight_132 rfl (by decide) rfl rfl ?_
            refine j_goto (tgt := 49) dX7_countNight_135 (by decide) ?_
            rw [nI_1]
            first
              | (rw [show ((nI out >>> (nI p &&& 31)) &&& 1 = 0) = (out.testBit p = false) from bit_t0 out hout p (by omega)] at h65
                 rw [if_neg (fun q => h65 q.1)] at ih
                 exact ih _ m hm hs)
              | (rw [bN_eq0] at h85
                 rw [if_neg (fun q => by rw [h85] at q; exact absurd q.2 (by decide))] at ih
                 exact ih _ m hm hs)
              | (rw [nI_add]
                 refine ih _ _ ((hm2.tr hm).up) (fun i hi => ?_)
                 show _ = nI (upN _ _ _ i)
                 unfold upN
                 by_cases hik : i = 6 * k + p
                 · subst hik; rw [up_at, if_pos rfl]
                 · rw [up_ne _ _ hik, if_neg hik]; exact hs2 i hi)
      · skip
        refine j_iload dX7_countNight_49 rfl ?_
        refine j_aload_n dX7_countNight_51 rfl rfl ?_
        refine gI7_18 rfl dX7_countNight_52 ?_
        refine j_icmp_ge (tgt := 138) dX7_countNight_55 (by decide) (fun _ => ?_) (fun h55 => absurd (by rw [hm 17 (by decide), hpe]; exact nI_le (Nat.le_refl _) (by omega)) h55)
        refine j_iload dX7_countNight_138 rfl ?_
        refine j_iret rfl dX7_countNight_140 ?_
        exact hp m hm hs
    · rw [if_pos (by omega)] at hp
      refine j_iload dX7_countNight_32 rfl ?_
      refine j_aload_n dX7_countNight_34 rfl rfl ?_
      refine gI7_31 (kT0 hT) dX7_countNight_35 ?_
      refine j_icmp_lt (tgt := 43) dX7_countNight_38 (by decide) (fun h38 => absurd (by rw [hR.prints] at h38; exact h38) (nI_nlt (by omega) (by omega))) (fun _ => ?_)
      refine j_iconst (v := 1) dX7_countNight_41 (by decide) ?_
      refine j_iret rfl dX7_countNight_42 ?_
      exact hp mi (fun _ _ => rfl) hWm
end C7b
