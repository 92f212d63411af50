/-! the class: reads, town, feed -/
theorem XR.ur {mr : MR} (h : XR mr) (a j : Nat) (x : Option Nat) (h1 : ∀ q ∈ fxA, ¬ (q.1 = a ∧ q.2.1 = j)) (h2 : ∀ q ∈ fxT1, ¬ (q.1 = a ∧ q.2.1 = j)) (h3 : ∀ q ∈ fxT2, ¬ (q.1 = a ∧ q.2.1 = j)) : XR (upr mr a j x) := by
  have key : ∀ q : Nat × Nat × Nat, ¬ (q.1 = a ∧ q.2.1 = j) → mr q.1 q.2.1 = some q.2.2 → upr mr a j x q.1 q.2.1 = some q.2.2 := fun q hq hm => by
    unfold upr
    split
    · next e => rw [if_neg (fun z => hq ⟨e, z⟩)]; exact hm
    · exact hm
  exact ⟨fun q hq => key q (h1 q hq) (h.1 q hq), fun q hq => key q (h2 q hq) (h.2.1 q hq), fun q hq => key q (h3 q hq) (h.2.2 q hq)⟩
theorem XR.u22 {mr : MR} (h : XR mr) (x : Option Nat) : XR (upr mr 2 2 x) := h.ur 2 2 x (by decide) (by decide) (by decide)
theorem XR.u02 {mr : MR} (h : XR mr) (x : Option Nat) : XR (upr mr 0 2 x) := h.ur 0 2 x (by decide) (by decide) (by decide)
theorem XR.u03 {mr : MR} (h : XR mr) (x : Option Nat) : XR (upr mr 0 3 x) := h.ur 0 3 x (by decide) (by decide) (by decide)
/-- the reader's cells, the names' rows and one town may have changed -/
def FR (T : Nat) (mi : MI) (ml : ML) (mi' : MI) (ml' : ML) : Prop := (∀ a, a ≠ 2 → a ≠ 6 → a ≠ 7 → (a < T ∨ T + 60 ≤ a) → mi' a = mi a) ∧ (∀ a, a ≠ 2 → a ≠ 5 → ml' a = ml a)
theorem FT.fr {T : Nat} {mi mi' mi2 : MI} {ml ml' ml2 : ML} (h : FR T mi ml mi' ml') (h2 : FT T mi' ml' mi2 ml2) : FR T mi ml mi2 ml2 := ⟨fun a x y z w => (h2.1 a x y z w).trans (h.1 a x y z w), fun a x y => (h2.2.1 a x y).trans (h.2 a x y)⟩
section C6g
variable {G : GG} {post : PT} {mi : MI} {ml : ML} {mr : MR} {dom : List Nat} {B : Nat → Nat} {n p T : Nat} {N : NS} {t : TW}
theorem fillm_o {mi : MI} {a b : Nat} {x : Int32} {k : Nat} (h : b ≠ a) : fillm mi a x k b = mi b := by funext i; unfold fillm; rw [if_neg h]
theorem c_reads (hX : XR mr) (hT : TT T) (hn : n ≤ 1100) (ht : ∀ k, k < n → mi 1 k = sx (B k) ∧ B k < 256) (hk : ∀ k, k < 7 → ml 4 k = kc k) (hE : ∀ e, rdT B n = .inl e → ∀ mi' ml', FR T mi ml mi' ml' → mi' 2 0 = nI e.1 → mi' 2 1 = nI e.2 → post (some (.int 0)) mi' ml' (upr mr 2 2 (some 1)) dom) (hO : ∀ s, rdT B n = .inr s → ∀ mi' ml', FR T mi ml mi' ml' → RP mi' T s.2.2 → post (some (.int 1)) mi' ml' (upr mr 2 2 (some 1)) dom) : CT G 11 0 0 yX6_reads cX6_reads 5 (some .boolean) [.ref 2, .ref 1, .int (nI n), .ref T] mi ml mr dom post := by
  have hX2 := hX.u22 (some 1)
  have hge := hT.ge
  refine enter 1 (by decide) rfl rfl (fun X => ?_)
  refine j_aload_n dX6_reads_0 rfl rfl ?_
  refine j_aload_n dX6_reads_1 rfl rfl ?_
  refine pR6_18 rfl dX6_reads_2 ?_
  refine j_aload_n dX6_reads_5 rfl rfl ?_
  refine j_iload_n dX6_reads_6 rfl rfl ?_
  refine j_aload_n dX6_reads_7 rfl rfl ?_
  refine j_alenB rfl rfl dX6_reads_8 ?_
  refine j_mmin6_76 dX6_reads_9 (by decide) (Nat.le_of_ble_eq_true rfl) ?_
  rw [show Int32.ofNat (ln 1) = nI 1100 from rfl, imin_nI (b := 1100) (by omega) (by decide), Nat.min_eq_left hn]
  refine pI6_22 rfl dX6_reads_12 ?_
  refine j_aload_n dX6_reads_15 rfl rfl ?_
  refine j_iconst (v := 0) dX6_reads_16 (by decide) ?_
  refine pI6_28 rfl dX6_reads_17 ?_
  refine j_aload_n dX6_reads_20 rfl rfl ?_
  refine j_iconst (v := 0) dX6_reads_21 (by decide) ?_
  refine pI6_55 rfl dX6_reads_22 ?_
  refine j_aload_n dX6_reads_25 rfl rfl ?_
  refine cV6_82 (d1 := 3) (kT0 hT) dX6_reads_26 (by decide) (Nat.le_of_ble_eq_true rfl) ?_
  refine c_tclear hX2 hT ?_
  refine j_aload_n dX6_reads_29 rfl rfl ?_
  refine cV6_87 (d1 := 3) rfl dX6_reads_30 (by decide) (Nat.le_of_ble_eq_true rfl) ?_
  obtain ⟨m1, hm1⟩ : ∃ m1, m1 = (fillm (up (up (up (up (up (up (up (up (up (up mi 2 3 (nI n)) 2 5 0) 2 13 0) T 0 0) T 4 0) T 5 0) T 6 0) T 7 0) T 8 0) (T + 2) 0 0) (T + 3) 0 36) := ⟨_, rfl⟩
  rw [← hm1]
  have f0 : FR T mi ml m1 ml := by
    refine ⟨fun a x y z w => ?_, fun _ _ _ => rfl⟩
    rw [hm1, fillm_o (by omega), up_off _ _ (by omega), up_off _ _ (by omega), up_off _ _ (by omega), up_off _ _ (by omega), up_off _ _ (by omega), up_off _ _ (by omega), up_off _ _ (by omega), up_off _ _ x, up_off _ _ x, up_off _ _ x]
  have hq2 : m1 2 = (up (up (up mi 2 3 (nI n)) 2 5 0) 2 13 0) 2 := by rw [hm1, fillm_o (by omega), up_off _ _ (by omega), up_off _ _ (by omega), up_off _ _ (by omega), up_off _ _ (by omega), up_off _ _ (by omega), up_off _ _ (by omega), up_off _ _ (by omega)]
  have b0 : RB m1 ml (upr mr 2 2 (some 1)) B n := ⟨hX2, upr_at _ _ _ _, hn, by rw [f0.1 1 (by decide) (by decide) (by decide) (Or.inl (by omega))]; exact ht, by rw [hq2, up_ne _ _ (by decide), up_ne _ _ (by decide), up_at], hk⟩
  have c0 : ∀ j, j = 0 ∨ j = 4 ∨ j = 5 ∨ j = 6 ∨ j = 7 ∨ j = 8 → m1 T j = 0 := fun j hj => by
    rw [hm1, fillm_o (by omega), up_off _ _ (by omega)]
    rcases hj with rfl | rfl | rfl | rfl | rfl | rfl
    · rw [up_ne _ _ (by decide), up_ne _ _ (by decide), up_ne _ _ (by decide), up_ne _ _ (by decide), up_ne _ _ (by decide), up_at]
    · rw [up_ne _ _ (by decide), up_ne _ _ (by decide), up_ne _ _ (by decide), up_ne _ _ (by decide), up_at]
    · rw [up_ne _ _ (by decide), up_ne _ _ (by decide), up_ne _ _ (by decide), up_at]
    · rw [up_ne _ _ (by decide), up_ne _ _ (by decide), up_at]
    · rw [up_ne _ _ (by decide), up_at]
    · rw [up_at]
  have r0 : RP m1 T t00 := by
    refine ⟨c0 0 (Or.inl rfl), fun r i hd1 => ?_⟩
    have hd2 : (r = 0 ∧ i < 9 ∧ (i < 3 → 0 < 0)) ∨ (r = 1 ∧ i < 0) ∨ (r = 2 ∧ i < 36) ∨ (4 ≤ r ∧ r ≤ 6 ∧ i < 0) ∨ (r = 7 ∧ i < 5 * 0) ∨ (8 ≤ r ∧ r ≤ 10 ∧ i < 0) ∨ (11 ≤ r ∧ r ≤ 13 ∧ i < 0) ∨ (14 ≤ r ∧ r ≤ 16 ∧ i < 0) := hd1
    clear hd1
    have hd : (r = 0 ∧ (i = 3 ∨ i = 4 ∨ i = 5 ∨ i = 6 ∨ i = 7 ∨ i = 8)) ∨ (r = 2 ∧ i < 36) := by omega
    clear hd2
    rcases hd with ⟨rfl, hd⟩ | ⟨rfl, hd⟩
    · rcases hd with rfl | rfl | rfl | rfl | rfl | rfl
      · exact c0 4 (by omega)
      · show m1 (T + 2) 0 = 0
        rw [hm1, fillm_o (by omega), up_at]
      · exact c0 5 (by omega)
      · exact c0 6 (by omega)
      · exact c0 7 (by omega)
      · exact c0 8 (by omega)
    · show m1 (T + 3) i = 0
      rw [hm1]; unfold fillm; rw [if_pos rfl, if_pos hd]
  have n0 : RNm m1 ml n00 := ⟨by decide, by rw [hq2, up_at]; rfl, fun k hk => absurd hk (Nat.not_lt_zero _)⟩
  refine c_step (p := 0) b0 (Nat.zero_le _) (by rw [hq2, up_ne _ _ (by decide), up_at]; rfl) (fun mi2 ml2 f2 g8 d2 => ?_)
  refine j_iconst (v := 0) dX6_reads_33 (by decide) ?_
  refine j_istore (lv2 := [_, _, _, _, _]) dX6_reads_34 (by decide) rfl rfl ?_
  have key : ∀ k, k ≤ n → ∀ (s : RS) (m : MI) (l : ML), FR T mi ml m l → RB m l (upr mr 2 2 (some 1)) B n → RD m l B n s.1 → RNm m l s.2.1 → RP m T s.2.2 → WI s → rdA B n k s = rdT B n → J cX6_reads 5 yX6_reads.cls yX6_reads.name (some .boolean) 11 G X post 0 0 m l (upr mr 2 2 (some 1)) dom 36 [some (.ref 2), some (.ref 1), some (.int (nI n)), some (.ref T), some (.int (nI (n - k)))] [] := by
    intro k
    induction k with
    | zero =>
      intro _ s m l f b d nm r w hr
      rw [Nat.sub_zero]
      refine j_iload dX6_reads_36 rfl ?_
      refine j_aload_n dX6_reads_38 rfl rfl ?_
      refine gI6_22 rfl dX6_reads_39 ?_
      rw [b.2.2.2.2.1]
      refine j_icmp_ge (tgt := 92) dX6_reads_42 (by decide) (fun _ => ?_) (fun h42 => absurd (nI_le (by omega) (by omega)) h42)
      refine j_aload_n dX6_reads_92 rfl rfl ?_
      refine j_iconst (v := 1) dX6_reads_93 (by decide) ?_
      refine cV6_97 (d1 := 1) rfl dX6_reads_94 (by decide) (Nat.le_of_ble_eq_true rfl) ?_
      refine c_fails (x := 1) d (fun mi1 ml1 f1 g0 g1 => ?_)
      refine j_zret rfl (by decide) dX6_reads_97 ?_
      exact hE (1, tA B n s.1) (hr ▸ rfl) mi1 ml1 ((f1.ft T).fr f) g0 g1
    | succ k ih =>
      intro hkn s m l f b d nm r w hr
      refine j_iload dX6_reads_36 rfl ?_
      refine j_aload_n dX6_reads_38 rfl rfl ?_
      refine gI6_22 rfl dX6_reads_39 ?_
      rw [b.2.2.2.2.1]
      refine j_icmp_ge (tgt := 92) dX6_reads_42 (by decide) (fun h42 => absurd h42 (nI_ge (by omega) (by omega))) (fun _ => ?_)
      refine j_aload_n dX6_reads_45 rfl rfl ?_
      refine j_aload_n dX6_reads_46 rfl rfl ?_
      refine cV6_90 (d1 := 10) rfl dX6_reads_47 (by decide) (Nat.le_of_ble_eq_true rfl) ?_
      refine c_readsLine (p := s.1) (N := s.2.1) (t := s.2.2) hT b d nm w.1 w.2.1 r (fun e he mi1 ml1 f1 g0 g1 => ?_) (fun s1 he mi1 ml1 f1 d1 nm1 r1 => ?_)
      · have hz : rdT B n = .inl e := by rw [← hr, rdA, show liA B n s = .inl e from he]; rfl
        refine j_if_ne (tgt := 55) dX6_reads_50 (by decide) (fun h50 => absurd (by decide) h50) (fun _ => ?_)
        refine j_iconst (v := 0) dX6_reads_53 (by decide) ?_
        refine j_zret rfl (by decide) dX6_reads_54 ?_
        exact hE e hz mi1 ml1 (f1.fr f) g0 g1
      · have hz : rdT B n = (if tS B n s1.1 = 0 then (if s1.2.2 0 3 = 0 ∨ s1.2.2 0 5 = 0 then .inl (6, tA B n s1.1) else .inr s1) else if ¬ tS B n s1.1 = 3 then .inl (1, tA B n s1.1) else rdA B n k (tE B n s1.1, s1.2)) := by rw [← hr, rdA, show liA B n s = .inr s1 from he]; rfl
        have w1 := (li_inv w (show liA B n s = .inr s1 from he)).1
        have b1 := b.ft hT f1
        have hs4 := tS_le B n s1.1
        refine j_if_ne (tgt := 55) dX6_reads_50 (by decide) (fun _ => ?_) (fun h50 => absurd h50 (by decide))
        refine j_aload_n dX6_reads_55 rfl rfl ?_
        refine gI6_31 rfl dX6_reads_56 ?_
        rw [d1.2.2.2.1]
        refine j_if_ne (tgt := 68) dX6_reads_59 (by decide) (fun h59 => ?_) (fun h59 => ?_)
        · have hs0 : ¬ tS B n s1.1 = 0 := fun q => h59 (by rw [q]; rfl)
          refine j_aload_n dX6_reads_68 rfl rfl ?_
          refine gI6_31 rfl dX6_reads_69 ?_
          refine j_iconst (v := 3) dX6_reads_72 (by decide) ?_
          rw [d1.2.2.2.1]
          refine j_icmp_eq (tgt := 82) dX6_reads_73 (by decide) (fun h73 => ?_) (fun h73 => ?_)
          · have hs3 : tS B n s1.1 = 3 := by rw [show (3 : Int32) = nI 3 from rfl, nI_eq (by omega) (by decide)] at h73; exact h73
            refine j_aload_n dX6_reads_82 rfl rfl ?_
            refine cV6_87 (d1 := 3) rfl dX6_reads_83 (by decide) (Nat.le_of_ble_eq_true rfl) ?_
            refine c_step b1 d1.le d1.2.2.1 (fun mi2 ml2 f2 g8 d2 => ?_)
            refine j_iinc1 (lv2 := [_, _, _, _, _]) dX6_reads_86 rfl (by decide) rfl rfl ?_
            refine j_goto (tgt := 36) dX6_reads_89 (by decide) ?_
            rw [nI_1, show n - (k + 1) + 1 = n - k by omega]
            exact ih (by omega) (tE B n s1.1, s1.2) mi2 ml2 ((f2.ft T).fr (f1.fr f)) (b1.f2 f2) d2 (nm1.f2 f2) (RP.cg w1.2.1 r1 (fun c _ => f2.1 _ (by omega))) w1 (by rw [hz, if_neg hs0, if_neg (fun q => q hs3)])
          · have hs3 : ¬ tS B n s1.1 = 3 := fun q => h73 (by rw [q]; rfl)
            refine j_aload_n dX6_reads_76 rfl rfl ?_
            refine j_iconst (v := 1) dX6_reads_77 (by decide) ?_
            refine cV6_97 (d1 := 1) rfl dX6_reads_78 (by decide) (Nat.le_of_ble_eq_true rfl) ?_
            refine c_fails (x := 1) d1 (fun mi2 ml2 f2 g0 g1 => ?_)
            refine j_zret rfl (by decide) dX6_reads_81 ?_
            exact hE (1, tA B n s1.1) (by rw [hz, if_neg hs0, if_pos hs3]) mi2 ml2 ((f2.ft T).fr (f1.fr f)) g0 g1
        · have hs0 : tS B n s1.1 = 0 := by rw [show (0 : Int32) = nI 0 from rfl, nI_eq (by omega) (by decide)] at h59; exact h59
          refine j_aload_n dX6_reads_62 rfl rfl ?_
          refine j_aload_n dX6_reads_63 rfl rfl ?_
          refine cV6_94 (d1 := 2) rfl dX6_reads_64 (by decide) (Nat.le_of_ble_eq_true rfl) ?_
          refine c_endsWell hT d1 w1.2.1 r1 (fun hq mi2 ml2 f2 g0 g1 => ?_) (fun hq => ?_)
          · 
            refine j_zret rfl (by decide) dX6_reads_67 ?_
            exact hE (6, tA B n s1.1) (by rw [hz, if_pos hs0, if_pos hq]) mi2 ml2 ((f2.ft T).fr (f1.fr f)) g0 g1
          · 
            refine j_zret rfl (by decide) dX6_reads_67 ?_
            exact hO s1 (by rw [hz, if_pos hs0, if_neg hq]) mi1 ml1 (f1.fr f) r1
  rw [show (0 : Int32) = nI (n - n) by rw [Nat.sub_self]; rfl]
  exact key n (Nat.le_refl _) (0, n00, t00) mi2 ml2 (f2.ft T |>.fr f0) (b0.f2 f2) d2 (n0.f2 f2) (RP.cg WI00.2.1 r0 (fun c _ => f2.1 _ (by omega))) WI00 rfl
end C6g
