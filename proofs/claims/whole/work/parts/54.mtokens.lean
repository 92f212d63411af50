/-! the reference: tokens -/
/-- the bytes that are read -/
def RBM (mi : MI) (B : Nat → Nat) (n : Nat) : Prop := mi 1000 7 = nI n ∧ n ≤ 1100 ∧ ∀ k, k < n → mi 1001 k = sx (B k) ∧ B k < 256
/-- only the token's cells have changed -/
def FG0 (mi : MI) (ml : ML) (mi' : MI) (ml' : ML) : Prop := (∀ a, a ≠ 1000 → mi' a = mi a) ∧ (∀ a, a ≠ 1000 → ml' a = ml a) ∧ ∀ j, j < 8 ∨ 12 < j → mi' 1000 j = mi 1000 j
def sM (s : Nat) : Nat := if s = 4 then 0 else s + 1
/-- the token at hand -/
def TK (m : MI) (l : ML) (B : Nat → Nat) (n p : Nat) : Prop := (tS B n p ≠ 4 → m 1000 8 = nI (tE B n p)) ∧ m 1000 9 = nI (sM (tS B n p)) ∧ m 1000 10 = nI (tA B n p) ∧ (tS B n p = 1 → l 1000 15 = tH B n p ∧ m 1000 12 = nI (tE B n p - tA B n p)) ∧ (tS B n p = 2 → m 1000 11 = nI (tV B n p))
section M13i
variable {G : GG} {post : PT} {mi : MI} {ml : ML} {mr : MR} {dom : List Nat} {M : Nat} {t : TW} {B : Nat → Nat} {n p : Nat}
theorem FG0.rfl' (mi : MI) (ml : ML) : FG0 mi ml mi ml := ⟨fun _ _ => rfl, fun _ _ => rfl, fun _ _ => rfl⟩
theorem FG0.pu {m : MI} {l : ML} (h : FG0 mi ml m l) {j : Nat} (hj : 8 ≤ j ∧ j ≤ 12) (x : Int32) : FG0 mi ml (up m 1000 j x) l := ⟨fun a ha => by rw [up_off _ _ ha]; exact h.1 a ha, h.2.1, fun i hi => by rw [up_ne _ _ (by omega)]; exact h.2.2 i hi⟩
theorem FG0.pl {m : MI} {l : ML} (h : FG0 mi ml m l) (j : Nat) (x : Int64) : FG0 mi ml m (upl l 1000 j x) := ⟨h.1, fun a ha => by rw [upl_off _ _ ha]; exact h.2.1 a ha, h.2.2⟩
theorem RBM.fg {m : MI} {l : ML} (h : RBM mi B n) (f : FG0 mi ml m l) : RBM m B n := ⟨(f.2.2 7 (by omega)).trans h.1, h.2.1, by rw [f.1 1001 (by decide)]; exact h.2.2⟩
theorem m_byteAt {k : Nat} (hX : XM mr) (hB : RBM mi B n) (hk : k < 2 ^ 31) (hp : post (some (.int (if k < n then nI (B k) else -1))) mi ml mr dom) : CT G 1 0 0 yX13_byteAt cX13_byteAt 2 (some .int) [.ref 1000, .int (nI k)] mi ml mr dom post := by
  have hn := hB.2.1
  refine enter 0 (by decide) rfl rfl (fun X => ?_)
  refine j_iload_n dX13_byteAt_0 rfl rfl ?_
  refine j_aload_n dX13_byteAt_1 rfl rfl ?_
  refine gI13_64 rfl dX13_byteAt_2 ?_
  rw [hB.1]
  refine j_icmp_ge (tgt := 21) dX13_byteAt_5 (by decide) (fun h5 => ?_) (fun h5 => ?_)
  all_goals rw [nI_leI (by omega) (by omega)] at h5
  · refine j_iconst (v := -1) dX13_byteAt_21 (by decide) ?_
    refine j_iret rfl dX13_byteAt_22 ?_
    first
      | (rw [if_pos (by omega)] at hp; exact hp)
      | (rw [if_neg (by omega)] at hp; exact hp)
  · refine j_aload_n dX13_byteAt_8 rfl rfl ?_
    refine gR13_13 rfl dX13_byteAt_9 (x1001 hX) ?_
    refine j_iload_n dX13_byteAt_12 rfl rfl ?_
    refine j_bald rfl (inT (show ln 1001 = 1100 from rfl) (show k < 1100 by omega) (by decide)) dX13_byteAt_13 ?_
    rw [nI_clamp (by omega), (hB.2.2 k (by omega)).1]
    refine j_sipush (v := nI 255) dX13_byteAt_14 (by decide) ?_
    refine j_iand dX13_byteAt_17 ?_
    rw [show sx (B k) &&& nI 255 = nI (B k) from (sx_lt _ (hB.2.2 k (by omega)).2).2.2.2.2.2.2.1]
    refine j_goto (tgt := 22) dX13_byteAt_18 (by decide) ?_
    refine j_iret rfl dX13_byteAt_22 ?_
    first
      | (rw [if_pos (by omega)] at hp; exact hp)
      | (rw [if_neg (by omega)] at hp; exact hp)
theorem m_isLetter {b : Nat} (hb : b < 2 ^ 31) (hp : post (some (.int (nI (bN (isL b))))) mi ml mr dom) : CT G 1 0 0 yX13_isLetter cX13_isLetter 1 (some .boolean) [.int (nI b)] mi ml mr dom post := by
  unfold isL at hp
  refine enter 0 (by decide) rfl rfl (fun X => ?_)
  refine j_iload_n dX13_isLetter_0 rfl rfl ?_
  refine j_bipush (v := nI 97) dX13_isLetter_1 (by decide) ?_
  refine j_icmp_lt (tgt := 16) dX13_isLetter_3 (by decide) (fun h3 => ?_) (fun h3 => ?_)
  all_goals rw [nI_ltI (by omega) (by omega)] at h3
  · refine j_iconst (v := nI 0) dX13_isLetter_16 (by decide) ?_
    refine j_zret rfl (by decide) dX13_isLetter_17 ?_
    first
      | (rw [decide_eq_true (by omega), decide_eq_true (by omega)] at hp; exact hp)
      | (rw [decide_eq_false (by omega), Bool.false_and] at hp; exact hp)
      | (rw [decide_eq_false (p := b ≤ 122) (by omega), Bool.and_false] at hp; exact hp)
  · refine j_iload_n dX13_isLetter_6 rfl rfl ?_
    refine j_bipush (v := nI 122) dX13_isLetter_7 (by decide) ?_
    refine j_icmp_gt (tgt := 16) dX13_isLetter_9 (by decide) (fun h9 => ?_) (fun h9 => ?_)
    all_goals rw [nI_ltI (by omega) (by omega)] at h9
    · refine j_iconst (v := nI 0) dX13_isLetter_16 (by decide) ?_
      refine j_zret rfl (by decide) dX13_isLetter_17 ?_
      first
        | (rw [decide_eq_true (by omega), decide_eq_true (by omega)] at hp; exact hp)
        | (rw [decide_eq_false (by omega), Bool.false_and] at hp; exact hp)
        | (rw [decide_eq_false (p := b ≤ 122) (by omega), Bool.and_false] at hp; exact hp)
    · refine j_iconst (v := nI 1) dX13_isLetter_12 (by decide) ?_
      refine j_goto (tgt := 17) dX13_isLetter_13 (by decide) ?_
      refine j_zret rfl (by decide) dX13_isLetter_17 ?_
      first
        | (rw [decide_eq_true (by omega), decide_eq_true (by omega)] at hp; exact hp)
        | (rw [decide_eq_false (by omega), Bool.false_and] at hp; exact hp)
        | (rw [decide_eq_false (p := b ≤ 122) (by omega), Bool.and_false] at hp; exact hp)
theorem m_isLetterM (hp : post (some (.int 0)) mi ml mr dom) : CT G 1 0 0 yX13_isLetter cX13_isLetter 1 (some .boolean) [.int (-1)] mi ml mr dom post := by
  refine enter 0 (by decide) rfl rfl (fun X => ?_)
  refine j_iload_n dX13_isLetter_0 rfl rfl ?_
  refine j_bipush (v := nI 97) dX13_isLetter_1 (by decide) ?_
  refine j_icmp_lt (tgt := 16) dX13_isLetter_3 (by decide) (fun h3 => ?_) (fun h3 => absurd (by decide) h3)
  refine j_iconst (v := nI 0) dX13_isLetter_16 (by decide) ?_
  refine j_zret rfl (by decide) dX13_isLetter_17 ?_
  exact hp
theorem m_isDigit {b : Nat} (hb : b < 2 ^ 31) (hp : post (some (.int (nI (bN (isG b))))) mi ml mr dom) : CT G 1 0 0 yX13_isDigit cX13_isDigit 1 (some .boolean) [.int (nI b)] mi ml mr dom post := by
  unfold isG at hp
  refine enter 0 (by decide) rfl rfl (fun X => ?_)
  refine j_iload_n dX13_isDigit_0 rfl rfl ?_
  refine j_bipush (v := nI 48) dX13_isDigit_1 (by decide) ?_
  refine j_icmp_lt (tgt := 16) dX13_isDigit_3 (by decide) (fun h3 => ?_) (fun h3 => ?_)
  all_goals rw [nI_ltI (by omega) (by omega)] at h3
  · refine j_iconst (v := nI 0) dX13_isDigit_16 (by decide) ?_
    refine j_zret rfl (by decide) dX13_isDigit_17 ?_
    first
      | (rw [decide_eq_true (by omega), decide_eq_true (by omega)] at hp; exact hp)
      | (rw [decide_eq_false (by omega), Bool.false_and] at hp; exact hp)
      | (rw [decide_eq_false (p := b ≤ 57) (by omega), Bool.and_false] at hp; exact hp)
  · refine j_iload_n dX13_isDigit_6 rfl rfl ?_
    refine j_bipush (v := nI 57) dX13_isDigit_7 (by decide) ?_
    refine j_icmp_gt (tgt := 16) dX13_isDigit_9 (by decide) (fun h9 => ?_) (fun h9 => ?_)
    all_goals rw [nI_ltI (by omega) (by omega)] at h9
    · refine j_iconst (v := nI 0) dX13_isDigit_16 (by decide) ?_
      refine j_zret rfl (by decide) dX13_isDigit_17 ?_
      first
        | (rw [decide_eq_true (by omega), decide_eq_true (by omega)] at hp; exact hp)
        | (rw [decide_eq_false (by omega), Bool.false_and] at hp; exact hp)
        | (rw [decide_eq_false (p := b ≤ 57) (by omega), Bool.and_false] at hp; exact hp)
    · refine j_iconst (v := nI 1) dX13_isDigit_12 (by decide) ?_
      refine j_goto (tgt := 17) dX13_isDigit_13 (by decide) ?_
      refine j_zret rfl (by decide) dX13_isDigit_17 ?_
      first
        | (rw [decide_eq_true (by omega), decide_eq_true (by omega)] at hp; exact hp)
        | (rw [decide_eq_false (by omega), Bool.false_and] at hp; exact hp)
        | (rw [decide_eq_false (p := b ≤ 57) (by omega), Bool.and_false] at hp; exact hp)
theorem m_isDigitM (hp : post (some (.int 0)) mi ml mr dom) : CT G 1 0 0 yX13_isDigit cX13_isDigit 1 (some .boolean) [.int (-1)] mi ml mr dom post := by
  refine enter 0 (by decide) rfl rfl (fun X => ?_)
  refine j_iload_n dX13_isDigit_0 rfl rfl ?_
  refine j_bipush (v := nI 48) dX13_isDigit_1 (by decide) ?_
  refine j_icmp_lt (tgt := 16) dX13_isDigit_3 (by decide) (fun h3 => ?_) (fun h3 => absurd (by decide) h3)
  refine j_iconst (v := nI 0) dX13_isDigit_16 (by decide) ?_
  refine j_zret rfl (by decide) dX13_isDigit_17 ?_
  exact hp
theorem m_packed {i : Nat} (hi : i < 24) (hp : post (some (.long (kc i))) mi ml mr dom) : CT G 6 0 0 yX13_packed cX13_packed 4 (some .long) [.ref (500 + i)] mi ml mr dom post := by
  have h8 := (str_ok i hi).2.1
  refine enter 3 (by decide) rfl rfl (fun X => ?_)
  refine j_lconst (v := 0) dX13_packed_0 (by decide) ?_
  refine j_lstore_n (lv2 := [_, _, _, _]) dX13_packed_1 rfl (by decide) rfl rfl ?_
  refine j_iconst (v := 0) dX13_packed_2 (by decide) ?_
  refine j_istore_n (lv2 := [_, _, _, _]) dX13_packed_3 rfl (by decide) rfl rfl ?_
  refine lq (n := strL.getD i 0) (H := fun j => J cX13_packed 4 yX13_packed.cls yX13_packed.name (some .long) 6 G X post 0 0 mi ml mr dom 4 [some (.ref (500 + i)), some (.long (hv 32 (fun k => ((strB.getD i []).getD k 0 - 97 + 1).toInt64) 0 j)), none, some (.int (nI j))] []) ?_ (fun j hj ih => ?_)
  · refine j_iload_n dX13_packed_4 rfl rfl ?_
    refine j_aload_n dX13_packed_5 rfl rfl ?_
    refine cT13_67 hi dX13_packed_6 (by decide) (Nat.le_of_ble_eq_true rfl) ?_
    refine j_icmp_ge (tgt := 36) dX13_packed_9 (by decide) (fun _ => ?_) (fun h => absurd (nI_le (Nat.le_refl _) (by omega)) h)
    refine j_lload_n dX13_packed_36 rfl rfl ?_
    exact j_lret rfl dX13_packed_37 hp
  · refine j_iload_n dX13_packed_4 rfl rfl ?_
    refine j_aload_n dX13_packed_5 rfl rfl ?_
    refine cT13_67 hi dX13_packed_6 (by decide) (Nat.le_of_ble_eq_true rfl) ?_
    refine j_icmp_ge (tgt := 36) dX13_packed_9 (by decide) (fun h => absurd h (nI_ge hj (by omega))) (fun _ => ?_)
    refine j_ldc2 wd1599 dX13_packed_12 ?_
    refine j_lload_n dX13_packed_15 rfl rfl ?_
    refine j_lmul dX13_packed_16 ?_
    refine j_aload_n dX13_packed_17 rfl rfl ?_
    refine j_iload_n dX13_packed_18 rfl rfl ?_
    refine cT13_75 hi hj dX13_packed_19 (by decide) (Nat.le_of_ble_eq_true rfl) ?_
    refine j_bipush (v := 97) dX13_packed_22 (by decide) ?_
    refine j_isub dX13_packed_24 ?_
    refine j_iconst (v := 1) dX13_packed_25 (by decide) ?_
    refine j_iadd dX13_packed_26 ?_
    refine j_i2l dX13_packed_27 ?_
    refine j_ladd dX13_packed_28 ?_
    refine j_lstore_n (lv2 := [_, _, _, _]) dX13_packed_29 rfl (by decide) rfl rfl ?_
    refine j_iinc1 (lv2 := [_, _, _, _]) dX13_packed_30 rfl (by decide) rfl rfl ?_
    refine j_goto (tgt := 4) dX13_packed_33 (by decide) ?_
    rw [nI_1]
    rw [hv, Nat.zero_add] at ih
    exact ih
theorem dv3 (B : Nat → Nat) {n : Nat} (p k : Nat) (hk : k ≤ 3) (hb : ∀ j, j < n → B j < 256) (hn : p + k ≤ n) : dv B p k ≤ 111 * 256 := by
  have h : k = 0 ∨ k = 1 ∨ k = 2 ∨ k = 3 := by omega
  rcases h with rfl | rfl | rfl | rfl
  · exact Nat.zero_le _
  · have := hb p (by omega); simp only [dv, Nat.add_zero]; omega
  · have := hb p (by omega); have := hb (p + 1) (by omega); simp only [dv, Nat.add_zero]; omega
  · have := hb p (by omega); have := hb (p + 1) (by omega); have := hb (p + 2) (by omega); simp only [dv, Nat.add_zero]; omega
theorem m_goesN {s : Nat} (hX : XM mr) (hB : RBM mi B n) (hp8 : mi 1000 8 = nI p) (hpn : p ≤ n) (hs : mi 1000 9 = nI s) (hs5 : s < 5) (hp : ∀ m l, FG0 mi ml m l → TK m l B n p → post none m l mr dom) : CT G 2 0 0 yX13_goesOn cX13_goesOn 3 none [.ref 1000] mi ml mr dom post := by
  have hn := hB.2.1
  have hag := tA_ge B n p
  have hal := tA_le B hpn
  refine enter 2 (by decide) rfl rfl (fun X => ?_)
  refine j_aload_n dX13_goesOn_0 rfl rfl ?_
  refine gI13_79 rfl dX13_goesOn_1 ?_
  rw [hs]
  refine j_iconst (v := nI 5) dX13_goesOn_4 (by decide) ?_
  refine j_icmp_ne (tgt := 9) dX13_goesOn_5 (by decide) (fun h5 => ?_) (fun h5 => by exfalso; rw [nI_eq (by omega) (by omega)] at h5; omega)
  skip
  have key : ∀ (m : MI) (l : ML), FG0 mi ml m l → m 1000 8 = nI p → ∀ z1 z2 : Option Value, J cX13_goesOn 3 yX13_goesOn.cls yX13_goesOn.name none 2 G X post 0 0 m l mr dom 9 [some (.ref 1000), z1, z2] [] := by
    refine rq_loop (Q := (fun k => decide (B k = 32))) (n := n) (p := p) (H := fun i => ∀ (m : MI) (l : ML), FG0 mi ml m l → m 1000 8 = nI i → ∀ z1 z2 : Option Value, J cX13_goesOn 3 yX13_goesOn.cls yX13_goesOn.name none 2 G X post 0 0 m l mr dom 9 [some (.ref 1000), z1, z2] []) (fun i hai hin hq ih m l f hs8 z1 z2 => ?_) (fun m l f hs8 z1 z2 => ?_)
    · skip
      refine j_aload_n dX13_goesOn_9 rfl rfl ?_
      refine j_aload_n dX13_goesOn_10 rfl rfl ?_
      refine gI13_82 rfl dX13_goesOn_11 ?_
      rw [hs8]
      refine cV13_85 (d1 := 1) rfl dX13_goesOn_14 (by decide) (Nat.le_of_ble_eq_true rfl) ?_
      refine m_byteAt hX (hB.fg f) (by omega) ?_
      rw [if_pos hin]
      refine j_bipush (v := nI 32) dX13_goesOn_17 (by decide) ?_
      refine j_icmp_ne (tgt := 35) dX13_goesOn_19 (by decide) (fun h19 => by exfalso; rw [nI_eq (by have := (hB.2.2 _ hin).2; omega) (by decide)] at h19; exact h19 (of_decide_eq_true hq)) (fun h19 => ?_)
      refine j_aload_n dX13_goesOn_22 rfl rfl ?_
      refine j_dup dX13_goesOn_23 rfl ?_
      refine gI13_82 rfl dX13_goesOn_24 ?_
      rw [hs8]
      refine j_iconst (v := nI 1) dX13_goesOn_27 (by decide) ?_
      refine j_iadd dX13_goesOn_28 ?_
      rw [nI_add]
      refine pI13_82 rfl dX13_goesOn_29 ?_
      refine j_goto (tgt := 9) dX13_goesOn_32 (by decide) ?_
      exact ih _ _ (f.pu (by omega) _) (up_at _ _ _ _) _ _
    · have hs8 : m 1000 8 = nI (tA B n p) := hs8
      by_cases hin : (tA B n p) < n
      · have hne : ¬ B (tA B n p) = 32 := of_decide_eq_false (rq_stop (fun k => decide (B k = 32)) n p hin)
        refine j_aload_n dX13_goesOn_9 rfl rfl ?_
        refine j_aload_n dX13_goesOn_10 rfl rfl ?_
        refine gI13_82 rfl dX13_goesOn_11 ?_
        rw [hs8]
        refine cV13_85 (d1 := 1) rfl dX13_goesOn_14 (by decide) (Nat.le_of_ble_eq_true rfl) ?_
        refine m_byteAt hX (hB.fg f) (by omega) ?_
        rw [if_pos hin]
        refine j_bipush (v := nI 32) dX13_goesOn_17 (by decide) ?_
        refine j_icmp_ne (tgt := 35) dX13_goesOn_19 (by decide) (fun h19 => ?_) (fun h19 => absurd h19 (fun q => by rw [nI_eq (by have := (hB.2.2 _ hin).2; omega) (by decide)] at q; exact hne q))
        refine j_aload_n dX13_goesOn_35 rfl rfl ?_
        refine j_aload_n dX13_goesOn_36 rfl rfl ?_
        refine gI13_82 rfl dX13_goesOn_37 ?_
        rw [hs8]
        refine pI13_88 rfl dX13_goesOn_40 ?_
        refine j_aload_n dX13_goesOn_43 rfl rfl ?_
        refine j_iconst (v := nI 0) dX13_goesOn_44 (by decide) ?_
        refine pI13_79 rfl dX13_goesOn_45 ?_
        have f2 := (f.pu (j := 10) (by omega) (nI (tA B n p))).pu (j := 9) (by omega) (nI 0)
        have s8 : (up (up m 1000 10 (nI (tA B n p))) 1000 9 (nI 0)) 1000 8 = nI (tA B n p) := by rw [up_ne _ _ (by decide), up_ne _ _ (by decide)]; exact hs8
        refine j_aload_n dX13_goesOn_48 rfl rfl ?_
        refine j_aload_n dX13_goesOn_49 rfl rfl ?_
        refine gI13_82 rfl dX13_goesOn_50 ?_
        rw [up_ne _ _ (by decide), up_ne _ _ (by decide), hs8]
        refine cV13_85 (d1 := 1) rfl dX13_goesOn_53 (by decide) (Nat.le_of_ble_eq_true rfl) ?_
        refine m_byteAt hX (hB.fg f2) (by omega) ?_
        rw [if_pos hin]
        refine j_istore_n (lv2 := [_, _, _]) dX13_goesOn_56 rfl (by decide) rfl rfl ?_
        refine j_iconst (v := nI 0) dX13_goesOn_57 (by decide) ?_
        refine j_istore_n (lv2 := [_, _, _]) dX13_goesOn_58 rfl (by decide) rfl rfl ?_
        refine j_iload_n dX13_goesOn_59 rfl rfl ?_
        refine j_iconst (v := -1) dX13_goesOn_60 (by decide) ?_
        refine j_icmp_ne (tgt := 72) dX13_goesOn_61 (by decide) (fun h61 => ?_) (fun h61 => absurd h61 (m1_ne (by have := (hB.2.2 _ hin).2; omega)))
        refine j_iload_n dX13_goesOn_72 rfl rfl ?_
        refine cS13_91 (d1 := 1) dX13_goesOn_73 (by decide) (Nat.le_of_ble_eq_true rfl) ?_
        refine m_isLetter (by have := (hB.2.2 _ hin).2; omega) ?_
        refine j_if_eq (tgt := 166) dX13_goesOn_76 (by decide) (fun h76 => ?_) (fun h76 => ?_)
        all_goals rw [bN_eq0] at h76
        · refine j_iload_n dX13_goesOn_166 rfl rfl ?_
          refine cS13_102 (d1 := 1) dX13_goesOn_167 (by decide) (Nat.le_of_ble_eq_true rfl) ?_
          refine m_isDigit (by have := (hB.2.2 _ hin).2; omega) ?_
          refine j_if_eq (tgt := 249) dX13_goesOn_170 (by decide) (fun h170 => ?_) (fun h170 => ?_)
          all_goals rw [bN_eq0] at h170
          · refine j_iload_n dX13_goesOn_249 rfl rfl ?_
            refine j_bipush (v := nI 59) dX13_goesOn_250 (by decide) ?_
            refine j_icmp_ne (tgt := 270) dX13_goesOn_252 (by decide) (fun h252 => ?_) (fun h252 => ?_)
            all_goals rw [nI_eq (by have := (hB.2.2 _ hin).2; omega) (by omega)] at h252
            · refine j_vret rfl dX13_goesOn_270 ?_
              have hl : ¬ isL (B (tA B n p)) = true := by rw [h76]; decide
              have hd : ¬ isG (B (tA B n p)) = true := by rw [h170]; decide
              have hts : tS B n p = 4 := by unfold tS; rw [if_neg (by omega), if_neg hl, if_neg hd, if_neg h252]
              refine hp _ _ f2 ⟨fun q => absurd hts q, ?_, ?_, fun q => absurd (hts.symm.trans q) (by decide), fun q => absurd (hts.symm.trans q) (by decide)⟩
              · rw [up_at, hts]; rfl
              · rw [up_ne _ _ (by decide), up_at]
            · refine j_aload_n dX13_goesOn_255 rfl rfl ?_
              refine j_iconst (v := nI 4) dX13_goesOn_256 (by decide) ?_
              refine pI13_79 rfl dX13_goesOn_257 ?_
              refine j_aload_n dX13_goesOn_260 rfl rfl ?_
              refine j_dup dX13_goesOn_261 rfl ?_
              refine gI13_82 rfl dX13_goesOn_262 ?_
              rw [up_ne _ _ (by decide), s8]
              refine j_iconst (v := nI 1) dX13_goesOn_265 (by decide) ?_
              refine j_iadd dX13_goesOn_266 ?_
              rw [nI_add]
              refine pI13_82 rfl dX13_goesOn_267 ?_
              refine j_vret rfl dX13_goesOn_270 ?_
              have hl : ¬ isL (B (tA B n p)) = true := by rw [h76]; decide
              have hd : ¬ isG (B (tA B n p)) = true := by rw [h170]; decide
              have hts : tS B n p = 3 := by unfold tS; rw [if_neg (by omega), if_neg hl, if_neg hd, if_pos h252]
              have hte : tE B n p = tA B n p + 1 := by unfold tE; rw [if_neg (by omega), if_neg hl, if_neg hd]
              refine hp _ _ ((f2.pu (j := 9) (by omega) _).pu (j := 8) (by omega) _) ⟨fun _ => ?_, ?_, ?_, fun q => absurd (hts.symm.trans q) (by decide), fun q => absurd (hts.symm.trans q) (by decide)⟩
              · rw [up_at, hte]
              · rw [up_ne _ _ (by decide), up_at, hts]; rfl
              · rw [up_ne _ _ (by decide), up_ne _ _ (by decide), up_ne _ _ (by decide), up_at]
          · refine j_aload_n dX13_goesOn_173 rfl rfl ?_
            refine j_iconst (v := nI 0) dX13_goesOn_174 (by decide) ?_
            refine pI13_105 rfl dX13_goesOn_175 ?_
            have hl : ¬ isL (B (tA B n p)) = true := by rw [h76]; decide
            have hd : isG (B (tA B n p)) = true := by rw [Bool.not_eq_false] at h170; exact h170
            have hrl : (rq (fun k => isG (B k)) n (tA B n p)) ≤ n := rq_le _ _ _ (by omega)
            have hrg : (tA B n p) ≤ (rq (fun k => isG (B k)) n (tA B n p)) := rq_ge _ _ _
            have key : ∀ (m : MI) (l : ML), FG0 mi ml m l → m 1000 8 = nI (tA B n p) → m 1000 9 = nI 0 → m 1000 10 = nI (tA B n p) → m 1000 11 = nI (dv B (tA B n p) (min ((tA B n p) - (tA B n p)) 3)) → J cX13_goesOn 3 yX13_goesOn.cls yX13_goesOn.name none 2 G X post 0 0 m l mr dom 178 [some (.ref 1000), some (.int (nI (B (tA B n p)))), some (.int (nI ((tA B n p) - (tA B n p))))] [] := by
              refine rq_loop (Q := (fun k => isG (B k))) (n := n) (p := (tA B n p)) (H := fun i => ∀ (m : MI) (l : ML), FG0 mi ml m l → m 1000 8 = nI i → m 1000 9 = nI 0 → m 1000 10 = nI (tA B n p) → m 1000 11 = nI (dv B (tA B n p) (min (i - (tA B n p)) 3)) → J cX13_goesOn 3 yX13_goesOn.cls yX13_goesOn.name none 2 G X post 0 0 m l mr dom 178 [some (.ref 1000), some (.int (nI (B (tA B n p)))), some (.int (nI (i - (tA B n p))))] []) (fun i hai hin hq ih m l f hs8 hs9 hs10 hnu => ?_) (fun m l f hs8 hs9 hs10 hnu => ?_)
              · have hq : isG (B i) = true := hq
                have hd3 := dv3 B (tA B n p) (min (i - (tA B n p)) 3) (Nat.min_le_right _ _) (fun j hj => (hB.2.2 j hj).2) (by omega)
                have hdg : 48 ≤ B i ∧ B i ≤ 57 := by unfold isG at hq; simpa [Bool.and_eq_true] using hq
                refine j_aload_n dX13_goesOn_178 rfl rfl ?_
                refine j_aload_n dX13_goesOn_179 rfl rfl ?_
                refine gI13_82 rfl dX13_goesOn_180 ?_
                rw [hs8]
                refine cV13_85 (d1 := 1) rfl dX13_goesOn_183 (by decide) (Nat.le_of_ble_eq_true rfl) ?_
                refine m_byteAt hX (hB.fg f) (by omega) ?_
                rw [if_pos hin]
                refine cS13_102 (d1 := 1) dX13_goesOn_186 (by decide) (Nat.le_of_ble_eq_true rfl) ?_
                refine m_isDigit (by have := (hB.2.2 _ hin).2; omega) ?_
                refine j_if_eq (tgt := 236) dX13_goesOn_189 (by decide) (fun h189 => by rw [bN_eq0] at h189; exact absurd (h189.symm.trans hq) (by decide)) (fun h189 => ?_)
                refine j_iload_n dX13_goesOn_192 rfl rfl ?_
                refine j_iconst (v := nI 3) dX13_goesOn_193 (by decide) ?_
                refine j_icmp_ge (tgt := 220) dX13_goesOn_194 (by decide) (fun h194 => ?_) (fun h194 => ?_)
                all_goals rw [nI_leI (by omega) (by omega)] at h194
                · refine j_iinc1 (lv2 := [_, _, _]) dX13_goesOn_220 rfl (by decide) rfl rfl ?_
                  rw [nI_1]
                  refine j_aload_n dX13_goesOn_223 rfl rfl ?_
                  refine j_dup dX13_goesOn_224 rfl ?_
                  refine gI13_82 rfl dX13_goesOn_225 ?_
                  rw [hs8]
                  refine j_iconst (v := nI 1) dX13_goesOn_228 (by decide) ?_
                  refine j_iadd dX13_goesOn_229 ?_
                  rw [nI_add]
                  refine pI13_82 rfl dX13_goesOn_230 ?_
                  refine j_goto (tgt := 178) dX13_goesOn_233 (by decide) ?_
                  rw [show i - tA B n p + 1 = i + 1 - tA B n p by omega]
                  refine ih _ _ (f.pu (by omega) _) (up_at _ _ _ _) ((up_ne _ _ (by decide)).trans hs9) ((up_ne _ _ (by decide)).trans hs10) ?_
                  rw [up_ne _ _ (by decide), hnu, Nat.min_eq_right (by omega), Nat.min_eq_right (by omega)]
                · refine j_aload_n dX13_goesOn_197 rfl rfl ?_
                  refine j_bipush (v := nI 10) dX13_goesOn_198 (by decide) ?_
                  refine j_aload_n dX13_goesOn_200 rfl rfl ?_
                  refine gI13_105 rfl dX13_goesOn_201 ?_
                  rw [hnu]
                  refine j_imul dX13_goesOn_204 ?_
                  rw [pk_mul]
                  refine j_aload_n dX13_goesOn_205 rfl rfl ?_
                  refine j_aload_n dX13_goesOn_206 rfl rfl ?_
                  refine gI13_82 rfl dX13_goesOn_207 ?_
                  rw [hs8]
                  refine cV13_85 (d1 := 1) rfl dX13_goesOn_210 (by decide) (Nat.le_of_ble_eq_true rfl) ?_
                  refine m_byteAt hX (hB.fg f) (by omega) ?_
                  rw [if_pos hin]
                  refine j_iadd dX13_goesOn_213 ?_
                  rw [nI_add]
                  refine j_bipush (v := nI 48) dX13_goesOn_214 (by decide) ?_
                  refine j_isub dX13_goesOn_216 ?_
                  rw [pk_sub (by have := (hB.2.2 _ hin).2; have := hd3; show 48 ≤ (10 * (dv B (tA B n p) (min (i - (tA B n p)) 3))) + (B i); omega)]
                  refine pI13_105 rfl dX13_goesOn_217 ?_
                  refine j_iinc1 (lv2 := [_, _, _]) dX13_goesOn_220 rfl (by decide) rfl rfl ?_
                  rw [nI_1]
                  refine j_aload_n dX13_goesOn_223 rfl rfl ?_
                  refine j_dup dX13_goesOn_224 rfl ?_
                  refine gI13_82 rfl dX13_goesOn_225 ?_
                  rw [up_ne _ _ (by decide), hs8]
                  refine j_iconst (v := nI 1) dX13_goesOn_228 (by decide) ?_
                  refine j_iadd dX13_goesOn_229 ?_
                  rw [nI_add]
                  refine pI13_82 rfl dX13_goesOn_230 ?_
                  refine j_goto (tgt := 178) dX13_goesOn_233 (by decide) ?_
                  rw [show i - tA B n p + 1 = i + 1 - tA B n p by omega]
                  refine ih _ _ ((f.pu (by omega) _).pu (by omega) _) (up_at _ _ _ _) ((up_ne _ _ (by decide)).trans ((up_ne _ _ (by decide)).trans hs9)) ((up_ne _ _ (by decide)).trans ((up_ne _ _ (by decide)).trans hs10)) ?_
                  rw [up_ne _ _ (by decide), up_at, Nat.min_eq_left (show i - tA B n p ≤ 3 by omega), Nat.min_eq_left (show i + 1 - tA B n p ≤ 3 by omega), show i + 1 - tA B n p = (i - tA B n p) + 1 by omega, dv, show tA B n p + (i - tA B n p) = i by omega]
                  congr 1; omega
              · show J cX13_goesOn 3 yX13_goesOn.cls yX13_goesOn.name none 2 G X post 0 0 m l mr dom 178 [some (.ref 1000), some (.int (nI (B (tA B n p)))), some (.int (nI ((rq (fun k => isG (B k)) n (tA B n p)) - (tA B n p))))] []
                by_cases hin : (rq (fun k => isG (B k)) n (tA B n p)) < n
                · have hst : isG (B (rq (fun k => isG (B k)) n (tA B n p))) = false := rq_stop (fun k => isG (B k)) n (tA B n p) hin
                  refine j_aload_n dX13_goesOn_178 rfl rfl ?_
                  refine j_aload_n dX13_goesOn_179 rfl rfl ?_
                  refine gI13_82 rfl dX13_goesOn_180 ?_
                  rw [hs8]
                  refine cV13_85 (d1 := 1) rfl dX13_goesOn_183 (by decide) (Nat.le_of_ble_eq_true rfl) ?_
                  refine m_byteAt hX (hB.fg f) (by omega) ?_
                  rw [if_pos hin]
                  refine cS13_102 (d1 := 1) dX13_goesOn_186 (by decide) (Nat.le_of_ble_eq_true rfl) ?_
                  refine m_isDigit (by have := (hB.2.2 _ hin).2; omega) ?_
                  refine j_if_eq (tgt := 236) dX13_goesOn_189 (by decide) (fun h189 => ?_) (fun h189 => by rw [bN_eq0] at h189; exact absurd hst h189)
                  refine j_iload_n dX13_goesOn_236 rfl rfl ?_
                  refine j_iconst (v := nI 3) dX13_goesOn_237 (by decide) ?_
                  refine j_icmp_gt (tgt := 270) dX13_goesOn_238 (by decide) (fun h238 => ?_) (fun h238 => ?_)
                  all_goals rw [nI_ltI (by omega) (by omega)] at h238
                  · refine j_vret rfl dX13_goesOn_270 ?_
                    have hte : tE B n p = (rq (fun k => isG (B k)) n (tA B n p)) := by unfold tE; rw [if_neg (by omega), if_neg hl, if_pos hd]
                    have hts : tS B n p = 4 := by unfold tS; rw [if_neg (by omega), if_neg hl, if_pos hd, hte, if_neg (by omega)]
                    refine hp _ _ f ⟨fun q => absurd hts q, ?_, hs10, fun q => absurd (hts.symm.trans q) (by decide), fun q => absurd (hts.symm.trans q) (by decide)⟩
                    rw [hs9, hts]; rfl
                  · refine j_aload_n dX13_goesOn_241 rfl rfl ?_
                    refine j_iconst (v := nI 3) dX13_goesOn_242 (by decide) ?_
                    refine pI13_79 rfl dX13_goesOn_243 ?_
                    refine j_goto (tgt := 270) dX13_goesOn_246 (by decide) ?_
                    refine j_vret rfl dX13_goesOn_270 ?_
                    have hte : tE B n p = (rq (fun k => isG (B k)) n (tA B n p)) := by unfold tE; rw [if_neg (by omega), if_neg hl, if_pos hd]
                    have hts : tS B n p = 2 := by unfold tS; rw [if_neg (by omega), if_neg hl, if_pos hd, hte, if_pos (by omega)]
                    refine hp _ _ (f.pu (j := 9) (by omega) _) ⟨fun _ => ?_, ?_, ?_, fun q => absurd (hts.symm.trans q) (by decide), fun _ => ?_⟩
                    · rw [up_ne _ _ (by decide), hs8, hte]
                    · rw [up_at, hts]; rfl
                    · rw [up_ne _ _ (by decide)]; exact hs10
                    · rw [up_ne _ _ (by decide), hnu]; unfold tV; rw [hte, Nat.min_eq_left (by omega)]
                · skip
                  refine j_aload_n dX13_goesOn_178 rfl rfl ?_
                  refine j_aload_n dX13_goesOn_179 rfl rfl ?_
                  refine gI13_82 rfl dX13_goesOn_180 ?_
                  rw [hs8]
                  refine cV13_85 (d1 := 1) rfl dX13_goesOn_183 (by decide) (Nat.le_of_ble_eq_true rfl) ?_
                  refine m_byteAt hX (hB.fg f) (by omega) ?_
                  rw [if_neg (by omega)]
                  refine cS13_102 (d1 := 1) dX13_goesOn_186 (by decide) (Nat.le_of_ble_eq_true rfl) ?_
                  refine m_isDigitM ?_
                  refine j_if_eq (tgt := 236) dX13_goesOn_189 (by decide) (fun h189 => ?_) (fun h189 => absurd (by decide) h189)
                  refine j_iload_n dX13_goesOn_236 rfl rfl ?_
                  refine j_iconst (v := nI 3) dX13_goesOn_237 (by decide) ?_
                  refine j_icmp_gt (tgt := 270) dX13_goesOn_238 (by decide) (fun h238 => ?_) (fun h238 => ?_)
                  all_goals rw [nI_ltI (by omega) (by omega)] at h238
                  · refine j_vret rfl dX13_goesOn_270 ?_
                    have hte : tE B n p = (rq (fun k => isG (B k)) n (tA B n p)) := by unfold tE; rw [if_neg (by omega), if_neg hl, if_pos hd]
                    have hts : tS B n p = 4 := by unfold tS; rw [if_neg (by omega), if_neg hl, if_pos hd, hte, if_neg (by omega)]
                    refine hp _ _ f ⟨fun q => absurd hts q, ?_, hs10, fun q => absurd (hts.symm.trans q) (by decide), fun q => absurd (hts.symm.trans q) (by decide)⟩
                    rw [hs9, hts]; rfl
                  · refine j_aload_n dX13_goesOn_241 rfl rfl ?_
                    refine j_iconst (v := nI 3) dX13_goesOn_242 (by decide) ?_
                    refine pI13_79 rfl dX13_goesOn_243 ?_
                    refine j_goto (tgt := 270) dX13_goesOn_246 (by decide) ?_
                    refine j_vret rfl dX13_goesOn_270 ?_
                    have hte : tE B n p = (rq (fun k => isG (B k)) n (tA B n p)) := by unfold tE; rw [if_neg (by omega), if_neg hl, if_pos hd]
                    have hts : tS B n p = 2 := by unfold tS; rw [if_neg (by omega), if_neg hl, if_pos hd, hte, if_pos (by omega)]
                    refine hp _ _ (f.pu (j := 9) (by omega) _) ⟨fun _ => ?_, ?_, ?_, fun q => absurd (hts.symm.trans q) (by decide), fun _ => ?_⟩
                    · rw [up_ne _ _ (by decide), hs8, hte]
                    · rw [up_at, hts]; rfl
                    · rw [up_ne _ _ (by decide)]; exact hs10
                    · rw [up_ne _ _ (by decide), hnu]; unfold tV; rw [hte, Nat.min_eq_left (by omega)]
            have k0 := key _ _ (f2.pu (j := 11) (by omega) (nI 0)) ((up_ne _ _ (by decide)).trans s8) ((up_ne _ _ (by decide)).trans (up_at _ _ _ _)) ((up_ne _ _ (by decide)).trans ((up_ne _ _ (by decide)).trans (up_at _ _ _ _))) (by rw [up_at, Nat.sub_self]; rfl)
            rw [Nat.sub_self] at k0
            exact k0
        · refine j_aload_n dX13_goesOn_79 rfl rfl ?_
          refine j_lconst (v := 0) dX13_goesOn_80 (by decide) ?_
          refine pL13_95 rfl dX13_goesOn_81 ?_
          have hl : isL (B (tA B n p)) = true := by rw [Bool.not_eq_false] at h76; exact h76
          have hrl : (rq (fun k => isL (B k)) n (tA B n p)) ≤ n := rq_le _ _ _ (by omega)
          have hrg : (tA B n p) ≤ (rq (fun k => isL (B k)) n (tA B n p)) := rq_ge _ _ _
          have key : ∀ (m : MI) (l : ML), FG0 mi ml m l → m 1000 8 = nI (tA B n p) → m 1000 9 = nI 0 → m 1000 10 = nI (tA B n p) → l 1000 15 = hv 32 (gL B) (tA B n p) (min ((tA B n p) - (tA B n p)) 8) → J cX13_goesOn 3 yX13_goesOn.cls yX13_goesOn.name none 2 G X post 0 0 m l mr dom 84 [some (.ref 1000), some (.int (nI (B (tA B n p)))), some (.int (nI ((tA B n p) - (tA B n p))))] [] := by
            refine rq_loop (Q := (fun k => isL (B k))) (n := n) (p := (tA B n p)) (H := fun i => ∀ (m : MI) (l : ML), FG0 mi ml m l → m 1000 8 = nI i → m 1000 9 = nI 0 → m 1000 10 = nI (tA B n p) → l 1000 15 = hv 32 (gL B) (tA B n p) (min (i - (tA B n p)) 8) → J cX13_goesOn 3 yX13_goesOn.cls yX13_goesOn.name none 2 G X post 0 0 m l mr dom 84 [some (.ref 1000), some (.int (nI (B (tA B n p)))), some (.int (nI (i - (tA B n p))))] []) (fun i hai hin hq ih m l f hs8 hs9 hs10 hwd => ?_) (fun m l f hs8 hs9 hs10 hwd => ?_)
            · have hq : isL (B i) = true := hq
              refine j_aload_n dX13_goesOn_84 rfl rfl ?_
              refine j_aload_n dX13_goesOn_85 rfl rfl ?_
              refine gI13_82 rfl dX13_goesOn_86 ?_
              rw [hs8]
              refine cV13_85 (d1 := 1) rfl dX13_goesOn_89 (by decide) (Nat.le_of_ble_eq_true rfl) ?_
              refine m_byteAt hX (hB.fg f) (by omega) ?_
              rw [if_pos hin]
              refine cS13_91 (d1 := 1) dX13_goesOn_92 (by decide) (Nat.le_of_ble_eq_true rfl) ?_
              refine m_isLetter (by have := (hB.2.2 _ hin).2; omega) ?_
              refine j_if_eq (tgt := 147) dX13_goesOn_95 (by decide) (fun h95 => by rw [bN_eq0] at h95; exact absurd (h95.symm.trans hq) (by decide)) (fun h95 => ?_)
              refine j_iload_n dX13_goesOn_98 rfl rfl ?_
              refine j_bipush (v := nI 8) dX13_goesOn_99 (by decide) ?_
              refine j_icmp_ge (tgt := 131) dX13_goesOn_101 (by decide) (fun h101 => ?_) (fun h101 => ?_)
              all_goals rw [nI_leI (by omega) (by omega)] at h101
              · refine j_iinc1 (lv2 := [_, _, _]) dX13_goesOn_131 rfl (by decide) rfl rfl ?_
                rw [nI_1]
                refine j_aload_n dX13_goesOn_134 rfl rfl ?_
                refine j_dup dX13_goesOn_135 rfl ?_
                refine gI13_82 rfl dX13_goesOn_136 ?_
                rw [hs8]
                refine j_iconst (v := nI 1) dX13_goesOn_139 (by decide) ?_
                refine j_iadd dX13_goesOn_140 ?_
                rw [nI_add]
                refine pI13_82 rfl dX13_goesOn_141 ?_
                refine j_goto (tgt := 84) dX13_goesOn_144 (by decide) ?_
                rw [show i - tA B n p + 1 = i + 1 - tA B n p by omega]
                refine ih _ _ (f.pu (by omega) _) (up_at _ _ _ _) ((up_ne _ _ (by decide)).trans hs9) ((up_ne _ _ (by decide)).trans hs10) ?_
                rw [hwd, Nat.min_eq_right (by omega), Nat.min_eq_right (by omega)]
              · refine j_aload_n dX13_goesOn_104 rfl rfl ?_
                refine j_ldc2 wd1599 dX13_goesOn_105 ?_
                refine j_aload_n dX13_goesOn_108 rfl rfl ?_
                refine gL13_95 rfl dX13_goesOn_109 ?_
                rw [hwd]
                refine j_lmul dX13_goesOn_112 ?_
                refine j_aload_n dX13_goesOn_113 rfl rfl ?_
                refine j_aload_n dX13_goesOn_114 rfl rfl ?_
                refine gI13_82 rfl dX13_goesOn_115 ?_
                rw [hs8]
                refine cV13_85 (d1 := 1) rfl dX13_goesOn_118 (by decide) (Nat.le_of_ble_eq_true rfl) ?_
                refine m_byteAt hX (hB.fg f) (by omega) ?_
                rw [if_pos hin]
                refine j_bipush (v := nI 97) dX13_goesOn_121 (by decide) ?_
                refine j_isub dX13_goesOn_123 ?_
                refine j_iconst (v := nI 1) dX13_goesOn_124 (by decide) ?_
                refine j_iadd dX13_goesOn_125 ?_
                refine j_i2l dX13_goesOn_126 ?_
                rw [show (nI (B i) - nI 97 + nI 1).toInt64 = gL B i by unfold gL; rw [((sx_lt _ (hB.2.2 i hin).2).2.2.2.2.2.2.2.1 hq).1]; rfl]
                refine j_ladd dX13_goesOn_127 ?_
                refine pL13_95 rfl dX13_goesOn_128 ?_
                refine j_iinc1 (lv2 := [_, _, _]) dX13_goesOn_131 rfl (by decide) rfl rfl ?_
                rw [nI_1]
                refine j_aload_n dX13_goesOn_134 rfl rfl ?_
                refine j_dup dX13_goesOn_135 rfl ?_
                refine gI13_82 rfl dX13_goesOn_136 ?_
                rw [hs8]
                refine j_iconst (v := nI 1) dX13_goesOn_139 (by decide) ?_
                refine j_iadd dX13_goesOn_140 ?_
                rw [nI_add]
                refine pI13_82 rfl dX13_goesOn_141 ?_
                refine j_goto (tgt := 84) dX13_goesOn_144 (by decide) ?_
                rw [show i - tA B n p + 1 = i + 1 - tA B n p by omega]
                refine ih _ _ ((f.pl 15 _).pu (by omega) _) (up_at _ _ _ _) ((up_ne _ _ (by decide)).trans hs9) ((up_ne _ _ (by decide)).trans hs10) ?_
                rw [upl_at, Nat.min_eq_left (by omega), Nat.min_eq_left (by omega), show i + 1 - tA B n p = (i - tA B n p) + 1 by omega, hv, show tA B n p + (i - tA B n p) = i by omega]
            · show J cX13_goesOn 3 yX13_goesOn.cls yX13_goesOn.name none 2 G X post 0 0 m l mr dom 84 [some (.ref 1000), some (.int (nI (B (tA B n p)))), some (.int (nI ((rq (fun k => isL (B k)) n (tA B n p)) - (tA B n p))))] []
              by_cases hin : (rq (fun k => isL (B k)) n (tA B n p)) < n
              · have hst : isL (B (rq (fun k => isL (B k)) n (tA B n p))) = false := rq_stop (fun k => isL (B k)) n (tA B n p) hin
                refine j_aload_n dX13_goesOn_84 rfl rfl ?_
                refine j_aload_n dX13_goesOn_85 rfl rfl ?_
                refine gI13_82 rfl dX13_goesOn_86 ?_
                rw [hs8]
                refine cV13_85 (d1 := 1) rfl dX13_goesOn_89 (by decide) (Nat.le_of_ble_eq_true rfl) ?_
                refine m_byteAt hX (hB.fg f) (by omega) ?_
                rw [if_pos hin]
                refine cS13_91 (d1 := 1) dX13_goesOn_92 (by decide) (Nat.le_of_ble_eq_true rfl) ?_
                refine m_isLetter (by have := (hB.2.2 _ hin).2; omega) ?_
                refine j_if_eq (tgt := 147) dX13_goesOn_95 (by decide) (fun h95 => ?_) (fun h95 => by rw [bN_eq0] at h95; exact absurd hst h95)
                refine j_aload_n dX13_goesOn_147 rfl rfl ?_
                refine j_iload_n dX13_goesOn_148 rfl rfl ?_
                refine pI13_99 rfl dX13_goesOn_149 ?_
                refine j_iload_n dX13_goesOn_152 rfl rfl ?_
                refine j_bipush (v := nI 8) dX13_goesOn_153 (by decide) ?_
                refine j_icmp_gt (tgt := 270) dX13_goesOn_155 (by decide) (fun h155 => ?_) (fun h155 => ?_)
                all_goals rw [nI_ltI (by omega) (by omega)] at h155
                · refine j_vret rfl dX13_goesOn_270 ?_
                  have hte : tE B n p = (rq (fun k => isL (B k)) n (tA B n p)) := by unfold tE; rw [if_neg (by omega), if_pos hl]
                  have hts : tS B n p = 4 := by unfold tS; rw [if_neg (by omega), if_pos hl, hte, if_neg (by omega)]
                  refine hp _ _ (f.pu (j := 12) (by omega) _) ⟨fun q => absurd hts q, ?_, ?_, fun q => absurd (hts.symm.trans q) (by decide), fun q => absurd (hts.symm.trans q) (by decide)⟩
                  · rw [up_ne _ _ (by decide), hs9, hts]; rfl
                  · rw [up_ne _ _ (by decide)]; exact hs10
                · refine j_aload_n dX13_goesOn_158 rfl rfl ?_
                  refine j_iconst (v := nI 2) dX13_goesOn_159 (by decide) ?_
                  refine pI13_79 rfl dX13_goesOn_160 ?_
                  refine j_goto (tgt := 270) dX13_goesOn_163 (by decide) ?_
                  refine j_vret rfl dX13_goesOn_270 ?_
                  have hte : tE B n p = (rq (fun k => isL (B k)) n (tA B n p)) := by unfold tE; rw [if_neg (by omega), if_pos hl]
                  have hts : tS B n p = 1 := by unfold tS; rw [if_neg (by omega), if_pos hl, hte, if_pos (by omega)]
                  have hth : tH B n p = hv 32 (gL B) (tA B n p) (tE B n p - tA B n p) := by unfold tH; rw [if_neg (by omega), if_pos hl]
                  refine hp _ _ ((f.pu (j := 12) (by omega) _).pu (j := 9) (by omega) _) ⟨fun _ => ?_, ?_, ?_, fun _ => ⟨?_, ?_⟩, fun q => absurd (hts.symm.trans q) (by decide)⟩
                  · rw [up_ne _ _ (by decide), up_ne _ _ (by decide), hs8, hte]
                  · rw [up_at, hts]; rfl
                  · rw [up_ne _ _ (by decide), up_ne _ _ (by decide)]; exact hs10
                  · rw [hwd, hth, hte, Nat.min_eq_left (by omega)]
                  · rw [up_ne _ _ (by decide), up_at, hte]
              · skip
                refine j_aload_n dX13_goesOn_84 rfl rfl ?_
                refine j_aload_n dX13_goesOn_85 rfl rfl ?_
                refine gI13_82 rfl dX13_goesOn_86 ?_
                rw [hs8]
                refine cV13_85 (d1 := 1) rfl dX13_goesOn_89 (by decide) (Nat.le_of_ble_eq_true rfl) ?_
                refine m_byteAt hX (hB.fg f) (by omega) ?_
                rw [if_neg (by omega)]
                refine cS13_91 (d1 := 1) dX13_goesOn_92 (by decide) (Nat.le_of_ble_eq_true rfl) ?_
                refine m_isLetterM ?_
                refine j_if_eq (tgt := 147) dX13_goesOn_95 (by decide) (fun h95 => ?_) (fun h95 => absurd (by decide) h95)
                refine j_aload_n dX13_goesOn_147 rfl rfl ?_
                refine j_iload_n dX13_goesOn_148 rfl rfl ?_
                refine pI13_99 rfl dX13_goesOn_149 ?_
                refine j_iload_n dX13_goesOn_152 rfl rfl ?_
                refine j_bipush (v := nI 8) dX13_goesOn_153 (by decide) ?_
                refine j_icmp_gt (tgt := 270) dX13_goesOn_155 (by decide) (fun h155 => ?_) (fun h155 => ?_)
                all_goals rw [nI_ltI (by omega) (by omega)] at h155
                · refine j_vret rfl dX13_goesOn_270 ?_
                  have hte : tE B n p = (rq (fun k => isL (B k)) n (tA B n p)) := by unfold tE; rw [if_neg (by omega), if_pos hl]
                  have hts : tS B n p = 4 := by unfold tS; rw [if_neg (by omega), if_pos hl, hte, if_neg (by omega)]
                  refine hp _ _ (f.pu (j := 12) (by omega) _) ⟨fun q => absurd hts q, ?_, ?_, fun q => absurd (hts.symm.trans q) (by decide), fun q => absurd (hts.symm.trans q) (by decide)⟩
                  · rw [up_ne _ _ (by decide), hs9, hts]; rfl
                  · rw [up_ne _ _ (by decide)]; exact hs10
                · refine j_aload_n dX13_goesOn_158 rfl rfl ?_
                  refine j_iconst (v := nI 2) dX13_goesOn_159 (by decide) ?_
                  refine pI13_79 rfl dX13_goesOn_160 ?_
                  refine j_goto (tgt := 270) dX13_goesOn_163 (by decide) ?_
                  refine j_vret rfl dX13_goesOn_270 ?_
                  have hte : tE B n p = (rq (fun k => isL (B k)) n (tA B n p)) := by unfold tE; rw [if_neg (by omega), if_pos hl]
                  have hts : tS B n p = 1 := by unfold tS; rw [if_neg (by omega), if_pos hl, hte, if_pos (by omega)]
                  have hth : tH B n p = hv 32 (gL B) (tA B n p) (tE B n p - tA B n p) := by unfold tH; rw [if_neg (by omega), if_pos hl]
                  refine hp _ _ ((f.pu (j := 12) (by omega) _).pu (j := 9) (by omega) _) ⟨fun _ => ?_, ?_, ?_, fun _ => ⟨?_, ?_⟩, fun q => absurd (hts.symm.trans q) (by decide)⟩
                  · rw [up_ne _ _ (by decide), up_ne _ _ (by decide), hs8, hte]
                  · rw [up_at, hts]; rfl
                  · rw [up_ne _ _ (by decide), up_ne _ _ (by decide)]; exact hs10
                  · rw [hwd, hth, hte, Nat.min_eq_left (by omega)]
                  · rw [up_ne _ _ (by decide), up_at, hte]
          have k0 := key _ _ (f2.pl 15 0) s8 (up_at _ _ _ _) ((up_ne _ _ (by decide)).trans (up_at _ _ _ _)) (by rw [upl_at, Nat.sub_self]; rfl)
          rw [Nat.sub_self] at k0
          exact k0
      · skip
        refine j_aload_n dX13_goesOn_9 rfl rfl ?_
        refine j_aload_n dX13_goesOn_10 rfl rfl ?_
        refine gI13_82 rfl dX13_goesOn_11 ?_
        rw [hs8]
        refine cV13_85 (d1 := 1) rfl dX13_goesOn_14 (by decide) (Nat.le_of_ble_eq_true rfl) ?_
        refine m_byteAt hX (hB.fg f) (by omega) ?_
        rw [if_neg (by omega)]
        refine j_bipush (v := nI 32) dX13_goesOn_17 (by decide) ?_
        refine j_icmp_ne (tgt := 35) dX13_goesOn_19 (by decide) (fun h19 => ?_) (fun h19 => absurd h19 (by decide))
        refine j_aload_n dX13_goesOn_35 rfl rfl ?_
        refine j_aload_n dX13_goesOn_36 rfl rfl ?_
        refine gI13_82 rfl dX13_goesOn_37 ?_
        rw [hs8]
        refine pI13_88 rfl dX13_goesOn_40 ?_
        refine j_aload_n dX13_goesOn_43 rfl rfl ?_
        refine j_iconst (v := nI 0) dX13_goesOn_44 (by decide) ?_
        refine pI13_79 rfl dX13_goesOn_45 ?_
        refine j_aload_n dX13_goesOn_48 rfl rfl ?_
        refine j_aload_n dX13_goesOn_49 rfl rfl ?_
        refine gI13_82 rfl dX13_goesOn_50 ?_
        rw [up_ne _ _ (by decide), up_ne _ _ (by decide), hs8]
        refine cV13_85 (d1 := 1) rfl dX13_goesOn_53 (by decide) (Nat.le_of_ble_eq_true rfl) ?_
        refine m_byteAt hX (hB.fg ((f.pu (j := 10) (by omega) (nI (tA B n p))).pu (j := 9) (by omega) (nI 0))) (by omega) ?_
        rw [if_neg (by omega)]
        refine j_istore_n (lv2 := [_, _, _]) dX13_goesOn_56 rfl (by decide) rfl rfl ?_
        refine j_iconst (v := nI 0) dX13_goesOn_57 (by decide) ?_
        refine j_istore_n (lv2 := [_, _, _]) dX13_goesOn_58 rfl (by decide) rfl rfl ?_
        refine j_iload_n dX13_goesOn_59 rfl rfl ?_
        refine j_iconst (v := -1) dX13_goesOn_60 (by decide) ?_
        refine j_icmp_ne (tgt := 72) dX13_goesOn_61 (by decide) (fun h61 => absurd (by decide) h61) (fun h61 => ?_)
        refine j_aload_n dX13_goesOn_64 rfl rfl ?_
        refine j_iconst (v := nI 1) dX13_goesOn_65 (by decide) ?_
        refine pI13_79 rfl dX13_goesOn_66 ?_
        refine j_goto (tgt := 270) dX13_goesOn_69 (by decide) ?_
        refine j_vret rfl dX13_goesOn_270 ?_
        have hts : tS B n p = 0 := by unfold tS; rw [if_pos (by omega)]
        have hte : tE B n p = tA B n p := by unfold tE; rw [if_pos (by omega)]
        refine hp _ _ (((f.pu (j := 10) (by omega) _).pu (j := 9) (by omega) _).pu (j := 9) (by omega) _) ⟨fun _ => ?_, ?_, ?_, fun q => absurd (hts.symm.trans q) (by decide), fun q => absurd (hts.symm.trans q) (by decide)⟩
        · rw [up_ne _ _ (by decide), up_ne _ _ (by decide), up_ne _ _ (by decide), hte]; exact hs8
        · rw [up_at, hts]; rfl
        · rw [up_ne _ _ (by decide), up_ne _ _ (by decide), up_at]
  exact key mi ml (FG0.rfl' mi ml) hp8 none none
theorem m_goesO (hs : mi 1000 9 = nI 5) (hp : post none mi ml mr dom) : CT G 2 0 0 yX13_goesOn cX13_goesOn 3 none [.ref 1000] mi ml mr dom post := by
  refine enter 2 (by decide) rfl rfl (fun X => ?_)
  refine j_aload_n dX13_goesOn_0 rfl rfl ?_
  refine gI13_79 rfl dX13_goesOn_1 ?_
  rw [hs]
  refine j_iconst (v := nI 5) dX13_goesOn_4 (by decide) ?_
  refine j_icmp_ne (tgt := 9) dX13_goesOn_5 (by decide) (fun h5 => absurd (by decide) h5) (fun h5 => ?_)
  refine j_vret rfl dX13_goesOn_8 ?_
  exact hp
end M13i
