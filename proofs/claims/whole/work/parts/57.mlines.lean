/-! the reference: lines -/
/-- the token's cells and one town may have changed -/
def FM (M : Nat) (mi : MI) (ml : ML) (mi' : MI) (ml' : ML) : Prop := (∀ a, a ≠ 1000 → (a < M ∨ M + 20 ≤ a) → mi' a = mi a) ∧ (∀ a, a ≠ 1000 → a ≠ M + 17 → ml' a = ml a) ∧ ∀ j, j < 8 ∨ 14 < j → mi' 1000 j = mi 1000 j
section M13l
variable {G : GG} {post : PT} {mi m : MI} {ml l : ML} {mr : MR} {dom : List Nat} {M : Nat} {t : TW} {B : Nat → Nat} {n p : Nat} {N : NS}
theorem FG.fm (M : Nat) (h : FG mi ml m l) : FM M mi ml m l := ⟨fun a x _ => h.1 a x, fun a x _ => h.2.1 a x, h.2.2⟩
theorem FM.pu (h : FM M mi ml m l) (hM : MM M) {a j : Nat} (ha : M ≤ a ∧ a < M + 20) (x : Int32) : FM M mi ml (up m a j x) l := by
  have hge := hM.ge
  exact ⟨fun b y z => by rw [up_off _ _ (by omega)]; exact h.1 b y z, h.2.1, fun i hi => by rw [up_off _ _ (by omega)]; exact h.2.2 i hi⟩
theorem FM.pl (h : FM M mi ml m l) (j : Nat) (x : Int64) : FM M mi ml m (upl l (M + 17) j x) := ⟨h.1, fun a y z => by rw [upl_off _ _ z]; exact h.2.1 a y z, h.2.2⟩
theorem MZ.pu {x : ER Nat} (h : MZ m l B n x) {a j : Nat} (ha : a ≠ 1000) (y : Int32) : MZ (up m a j y) l B n x := by
  have e : up m a j y 1000 = m 1000 := up_off _ _ (fun q => ha q.symm)
  cases x with
  | inl e0 => unfold MZ; rw [e]; exact h
  | inr p => unfold MZ TK; rw [e]; exact h
theorem MZ.pl {x : ER Nat} (h : MZ m l B n x) {a j : Nat} (ha : a ≠ 1000) (y : Int64) : MZ m (upl l a j y) B n x := by
  have e : upl l a j y 1000 = l 1000 := upl_off _ _ (fun q => ha q.symm)
  cases x with
  | inl e0 => exact h
  | inr p => unfold MZ TK; rw [e]; exact h
theorem RM.put (h : RM m M t) {r i x : Nat} (h1 : 1 ≤ r) (h2 : r ≤ 16) : RM (up m (M + r) i (nI x)) M (ut t r i x) := by
  refine ⟨fun j hj => ?_, fun r' a b j hj => ?_⟩
  · rw [up_off _ _ (by omega), ut_ne _ _ (by omega)]; exact h.1 j hj
  · by_cases q : r' = r
    · subst q
      by_cases q2 : j = i
      · subst q2; rw [up_at, ut_at]
      · rw [up_ne _ _ q2, ut_ne _ _ (fun z => q2 z.2)]; exact h.2 r' a b j hj
    · rw [up_off _ _ (by omega), ut_ne _ _ (fun z => q z.1)]; exact h.2 r' a b j hj
theorem RM.put0 (h : RM m M t) {i x : Nat} : RM (up m M i (nI x)) M (ut t 0 i x) := by
  refine ⟨fun j hj => ?_, fun r' a b j hj => ?_⟩
  · by_cases q2 : j = i
    · subst q2; rw [up_at, ut_at]
    · rw [up_ne _ _ q2, ut_ne _ _ (fun z => q2 z.2)]; exact h.1 j hj
  · rw [up_off _ _ (by omega), ut_ne _ _ (by omega)]; exact h.2 r' a b j hj
theorem RM.o (h : RM m M t) {a j : Nat} {x : Int32} (ha : a ≠ M → ∀ r, 1 ≤ r → r ≤ 16 → a ≠ M + r) (h9 : a = M → 9 ≤ j) : RM (up m a j x) M t := by
  refine ⟨fun i hi => ?_, fun r h1 h2 i hi => ?_⟩
  · by_cases q : M = a
    · subst q; have := h9 rfl; rw [up_ne _ _ (by omega)]; exact h.1 i hi
    · rw [up_off _ _ q]; exact h.1 i hi
  · by_cases q : a = M
    · rw [up_off _ _ (by omega)]; exact h.2 r h1 h2 i hi
    · rw [up_off _ _ (fun z => ha q r h1 h2 z.symm)]; exact h.2 r h1 h2 i hi
theorem RNM.pu (h : RNM m l M N) {r i : Nat} (hr : r ≤ 16) (h9 : r = 0 → i < 9) (x : Int32) : RNM (up m (M + r) i x) l M N := by
  unfold RNM
  rw [up_off _ _ (show M + 18 ≠ M + r by omega), up_off _ _ (show M + 19 ≠ M + r by omega)]
  refine ⟨h.1, ?_, h.2.2⟩
  by_cases q : r = 0
  · subst q; have := h9 rfl; rw [Nat.add_zero, up_ne _ _ (by omega)]; exact h.2.1
  · rw [up_off _ _ (by omega)]; exact h.2.1
theorem RM.f (h : RM mi M t) (hM : MM M) (f : FG mi ml m l) : RM m M t := RM_lo hM (fun n hn => f.1 n (by omega)) h
theorem frN_nN {s k : Nat} (h17 : N.1 < 17) : frN B n N p = es Prod.fst (nN B n N s k p) := by
  unfold frN nN
  by_cases hc : tS B n p = 1 ∧ lsN B n p = 7
  · have hcc : ¬ ¬ (tS B n p = 1 ∧ lsN B n p = 7) := fun q => q hc
    rw [if_neg hcc, if_neg hcc]
    by_cases h2 : ixN N (tH B n p) < N.1
    · rw [if_pos h2, if_pos (Or.inl h2)]; rfl
    · rw [if_neg h2, if_neg (by omega)]; rfl
  · rw [if_pos hc, if_pos hc]; rfl
theorem ix_ad {h w : Int64} {s k : Nat} (hf : ixN N w < N.1) : ixN (adN N h s k) w = ixN N w := by
  have h1 := rq_stop (fun k => !decide (N.2.1 k = w)) N.1 0 hf
  unfold ixN
  refine Nat.le_antisymm ?_ ?_
  · by_cases q : rq (fun j => !decide ((adN N h s k).2.1 j = w)) (adN N h s k).1 0 ≤ rq (fun k => !decide (N.2.1 k = w)) N.1 0
    · exact q
    · have h2 := (rq_in (fun j => !decide ((adN N h s k).2.1 j = w)) (adN N h s k).1 0 _ (Nat.zero_le _) (Nat.lt_of_not_le q)).1
      have e : (adN N h s k).2.1 (rq (fun k => !decide (N.2.1 k = w)) N.1 0) = N.2.1 (rq (fun k => !decide (N.2.1 k = w)) N.1 0) := if_neg (Nat.ne_of_lt hf)
      rw [e] at h2
      exact absurd (h2.symm.trans h1) (by decide)
  · by_cases q : rq (fun k => !decide (N.2.1 k = w)) N.1 0 ≤ rq (fun j => !decide ((adN N h s k).2.1 j = w)) (adN N h s k).1 0
    · exact q
    · have q := Nat.lt_of_not_le q
      have h2 := (rq_in (fun k => !decide (N.2.1 k = w)) N.1 0 _ (Nat.zero_le _) q)
      have h3 := rq_stop (fun j => !decide ((adN N h s k).2.1 j = w)) (adN N h s k).1 0 (show _ < N.1 + 1 from Nat.lt_succ_of_lt h2.2)
      have e : (adN N h s k).2.1 (rq (fun j => !decide ((adN N h s k).2.1 j = w)) (adN N h s k).1 0) = N.2.1 (rq (fun j => !decide ((adN N h s k).2.1 j = w)) (adN N h s k).1 0) := if_neg (Nat.ne_of_lt h2.2)
      rw [e] at h3
      exact absurd (h2.1.symm.trans h3) (by decide)
theorem fN_ad {h : Int64} {s k : Nat} (hs : s ≠ 1) : fN B n (adN N h s k) 1 p = fN B n N 1 p := by
  unfold fN
  by_cases hc : tS B n p = 1 ∧ lsN B n p = 7
  · have hcc : ¬ ¬ (tS B n p = 1 ∧ lsN B n p = 7) := fun q => q hc
    rw [if_neg hcc, if_neg hcc]
    have hle : ixN N (tH B n p) ≤ N.1 := rq_le _ _ _ (by omega)
    by_cases hf : ixN N (tH B n p) < N.1
    · rw [ix_ad hf]
      have e1 : (adN N h s k).2.2.1 (ixN N (tH B n p)) = N.2.2.1 (ixN N (tH B n p)) := if_neg (Nat.ne_of_lt hf)
      have e2 : (adN N h s k).2.2.2 (ixN N (tH B n p)) = N.2.2.2 (ixN N (tH B n p)) := if_neg (Nat.ne_of_lt hf)
      have e3 : (adN N h s k).1 = N.1 + 1 := rfl
      rw [e1, e2, e3]
      by_cases h2 : N.2.2.1 (ixN N (tH B n p)) = 1
      · rw [if_neg (by omega), if_neg (by omega)]
      · rw [if_pos (Or.inr h2), if_pos (Or.inr h2)]
    · have hr : ixN N (tH B n p) = N.1 ∨ ¬ N.2.2.1 (ixN N (tH B n p)) = 1 := Or.inl (by omega)
      rw [if_pos hr]
      refine if_pos ?_
      have hle2 : ixN (adN N h s k) (tH B n p) ≤ N.1 + 1 := rq_le _ _ _ (Nat.zero_le _)
      by_cases h3 : ixN (adN N h s k) (tH B n p) = N.1 + 1
      · exact Or.inl h3
      · right
        by_cases h4 : ixN (adN N h s k) (tH B n p) = N.1
        · rw [h4]; show ¬ (if N.1 = N.1 then s else _) = 1; rw [if_pos rfl]; exact hs
        · exfalso
          have h5 : ixN (adN N h s k) (tH B n p) < N.1 := by omega
          have h6 := rq_stop (fun j => !decide ((adN N h s k).2.1 j = tH B n p)) (adN N h s k).1 0 (show _ < N.1 + 1 by exact Nat.lt_succ_of_lt h5)
          have e : (adN N h s k).2.1 (ixN (adN N h s k) (tH B n p)) = N.2.1 (ixN (adN N h s k) (tH B n p)) := if_neg (Nat.ne_of_lt h5)
          have h6 : (!decide ((adN N h s k).2.1 (ixN (adN N h s k) (tH B n p)) = tH B n p)) = false := h6
          rw [e] at h6
          have h7 := (rq_in (fun k => !decide (N.2.1 k = tH B n p)) N.1 0 (ixN (adN N h s k) (tH B n p)) (Nat.zero_le _) (show _ < ixN N (tH B n p) by omega)).1
          exact absurd (h7.symm.trans h6) (by decide)
  · rw [if_pos hc, if_pos hc]
end M13l
/-- what follows a line -/
def hML (post : PT) (B : Nat → Nat) (n M : Nat) (mi : MI) (ml : ML) (mr : MR) (dom : List Nat) (x : ER RS) : Prop := ∀ m l, FM M mi ml m l → (∀ e, x = .inl e → MZ m l B n (.inl e)) → (∀ s, x = .inr s → MZ m l B n (.inr s.1) ∧ RM m M s.2.2 ∧ RNM m l M s.2.1) → post none m l mr dom
section M13m
variable {G : GG} {post : PT} {mi : MI} {ml : ML} {mr : MR} {dom : List Nat} {M : Nat} {t : TW} {B : Nat → Nat} {n p : Nat} {N : NS}
theorem m_readVisit (hX : XM mr) (hM : MM M) (hY : XT mr M) (hRd : mr 1000 4 = some M) (hB : RBM mi B n) (hg : GB t) (hW : WT t) (hI : NI N t) (hU : t 0 2 = 0 → t 0 3 = 0 ∧ t 0 4 = 0 ∧ t 0 5 = 0 ∧ t 0 6 = 0 ∧ t 0 7 = 0 ∧ t 0 8 = 0) (hR : RM mi M t) (hN : RNM mi ml M N) (hz : MZ mi ml B n (.inr p)) (h1 : tS B n p = 1) (hls : lsN B n p = 5) (hp : hML post B n M mi ml mr dom (liA B n (p, N, t))) : CT G 11 0 0 yX13_readVisit cX13_readVisit 4 none [.ref 1000] mi ml mr dom post := by
  have w := hW.1
  have hge := hM.ge
  have hJ := hI.nj
  have hN2 := fun k hk => (hI.2.2 k hk).2.2
  have hsum := hI.2.1
  refine enter 3 (by decide) rfl rfl (fun X => ?_)
  refine j_aload_n dX13_readVisit_0 rfl rfl ?_
  refine j_aload_n dX13_readVisit_1 rfl rfl ?_
  refine gR13_157 rfl dX13_readVisit_2 hRd ?_
  refine gI13_302 (kM0 hM) dX13_readVisit_5 ?_
  rw [hR.1 7 (by decide)]
  refine j_bipush (v := nI 8) dX13_readVisit_8 (by decide) ?_
  refine cV13_236 (d1 := 3) rfl dX13_readVisit_10 (by decide) (Nat.le_of_ble_eq_true rfl) ?_
  refine m_lineB hX hM hg hRd hB (by omega) (by decide) (hR.1 2 (by decide)) hz h1 (fun m1 l1 f1 z1 => ?_)
  have F1 := f1
  have hcs : t 0 7 = 8 ∨ (t 0 7 ≠ 8 ∧ t 0 2 = 0) ∨ (t 0 7 ≠ 8 ∧ t 0 2 ≠ 0) := by omega
  rcases hcs with q1 | ⟨q1, q2⟩ | ⟨q1, q2⟩
  · rw [if_pos q1] at z1
    have ht : 0 < t 0 2 := by rcases Nat.eq_zero_or_pos (t 0 2) with q | q; have := hU q; omega; exact q
    have HL := liA_5m (N := N) (B := B) (n := n) hls ht (by omega)
    refine j_aload_n dX13_readVisit_13 rfl rfl ?_
    refine j_iconst (v := nI 1) dX13_readVisit_14 (by decide) ?_
    refine cV13_254 (d1 := 10) rfl dX13_readVisit_15 (by decide) (Nat.le_of_ble_eq_true rfl) ?_
    refine m_readKnown (s := 3) (x := .inl (5, tA B n p)) hX hM hY hRd (hB.f F1) (hN.f hM F1) hN2 (by decide) z1 (fun v2 m2 l2 f2 z2 g2 => ?_)
    have z2 : MZ m2 l2 B n (.inl (5, tA B n p)) := z2
    have F2 := F1.tr f2
    refine j_istore_n (lv2 := [_, _, _, _]) dX13_readVisit_18 rfl (by decide) rfl rfl ?_
    refine j_aload_n dX13_readVisit_19 rfl rfl ?_
    refine j_iconst (v := nI 0) dX13_readVisit_20 (by decide) ?_
    refine cV13_254 (d1 := 10) rfl dX13_readVisit_21 (by decide) (Nat.le_of_ble_eq_true rfl) ?_
    refine m_readKnown (s := 1) (x := .inl (5, tA B n p)) hX hM hY hRd (hB.f F2) (hN.f hM F2) hN2 (by decide) z2 (fun v3 m3 l3 f3 z3 g3 => ?_)
    have z3 : MZ m3 l3 B n (.inl (5, tA B n p)) := z3
    have F3 := F2.tr f3
    refine j_istore_n (lv2 := [_, _, _, _]) dX13_readVisit_24 rfl (by decide) rfl rfl ?_
    refine j_aload_n dX13_readVisit_25 rfl rfl ?_
    refine j_ldcS13_305 dX13_readVisit_26 ?_
    refine j_iconst (v := nI 0) dX13_readVisit_29 (by decide) ?_
    refine j_bipush (v := nI 23) dX13_readVisit_30 (by decide) ?_
    refine cV13_225 (d1 := 9) rfl dX13_readVisit_32 (by decide) (Nat.le_of_ble_eq_true rfl) ?_
    refine m_readPart (i := 22) (lo := 0) (hi := 23) (x := .inl (5, tA B n p)) hX (hB.f F3) (by decide) (by decide) (by decide) z3 (fun v4 m4 l4 f4 z4 g4 => ?_)
    have z4 : MZ m4 l4 B n (.inl (5, tA B n p)) := z4
    have F4 := F3.tr f4
    refine j_istore_n (lv2 := [_, _, _, _]) dX13_readVisit_35 rfl (by decide) rfl rfl ?_
    refine j_aload_n dX13_readVisit_36 rfl rfl ?_
    refine gI13_79 rfl dX13_readVisit_37 ?_
    rw [z4.1]
    refine j_iconst (v := nI 5) dX13_readVisit_40 (by decide) ?_
    refine j_icmp_ne (tgt := 45) dX13_readVisit_41 (by decide) (fun h41 => absurd (by decide) h41) (fun h41 => ?_)
    refine j_vret rfl dX13_readVisit_44 ?_
    exact hp m4 l4 (F4.fm M) (fun e9 he9 => by rw [HL] at he9; cases he9; exact z4) (fun s9 hs9 => by rw [HL] at hs9; cases hs9)
  · rw [if_neg q1, if_pos q2] at z1
    have HL := liA_n (N := N) (B := B) (n := n) (p := p) (t := t) (by omega) (by omega) (by omega)
    refine j_aload_n dX13_readVisit_13 rfl rfl ?_
    refine j_iconst (v := nI 1) dX13_readVisit_14 (by decide) ?_
    refine cV13_254 (d1 := 10) rfl dX13_readVisit_15 (by decide) (Nat.le_of_ble_eq_true rfl) ?_
    refine m_readKnown (s := 3) (x := .inl (6, tA B n p)) hX hM hY hRd (hB.f F1) (hN.f hM F1) hN2 (by decide) z1 (fun v5 m5 l5 f5 z5 g5 => ?_)
    have z5 : MZ m5 l5 B n (.inl (6, tA B n p)) := z5
    have F5 := F1.tr f5
    refine j_istore_n (lv2 := [_, _, _, _]) dX13_readVisit_18 rfl (by decide) rfl rfl ?_
    refine j_aload_n dX13_readVisit_19 rfl rfl ?_
    refine j_iconst (v := nI 0) dX13_readVisit_20 (by decide) ?_
    refine cV13_254 (d1 := 10) rfl dX13_readVisit_21 (by decide) (Nat.le_of_ble_eq_true rfl) ?_
    refine m_readKnown (s := 1) (x := .inl (6, tA B n p)) hX hM hY hRd (hB.f F5) (hN.f hM F5) hN2 (by decide) z5 (fun v6 m6 l6 f6 z6 g6 => ?_)
    have z6 : MZ m6 l6 B n (.inl (6, tA B n p)) := z6
    have F6 := F5.tr f6
    refine j_istore_n (lv2 := [_, _, _, _]) dX13_readVisit_24 rfl (by decide) rfl rfl ?_
    refine j_aload_n dX13_readVisit_25 rfl rfl ?_
    refine j_ldcS13_305 dX13_readVisit_26 ?_
    refine j_iconst (v := nI 0) dX13_readVisit_29 (by decide) ?_
    refine j_bipush (v := nI 23) dX13_readVisit_30 (by decide) ?_
    refine cV13_225 (d1 := 9) rfl dX13_readVisit_32 (by decide) (Nat.le_of_ble_eq_true rfl) ?_
    refine m_readPart (i := 22) (lo := 0) (hi := 23) (x := .inl (6, tA B n p)) hX (hB.f F6) (by decide) (by decide) (by decide) z6 (fun v7 m7 l7 f7 z7 g7 => ?_)
    have z7 : MZ m7 l7 B n (.inl (6, tA B n p)) := z7
    have F7 := F6.tr f7
    refine j_istore_n (lv2 := [_, _, _, _]) dX13_readVisit_35 rfl (by decide) rfl rfl ?_
    refine j_aload_n dX13_readVisit_36 rfl rfl ?_
    refine gI13_79 rfl dX13_readVisit_37 ?_
    rw [z7.1]
    refine j_iconst (v := nI 5) dX13_readVisit_40 (by decide) ?_
    refine j_icmp_ne (tgt := 45) dX13_readVisit_41 (by decide) (fun h41 => absurd (by decide) h41) (fun h41 => ?_)
    refine j_vret rfl dX13_readVisit_44 ?_
    exact hp m7 l7 (F7.fm M) (fun e9 he9 => by rw [HL] at he9; cases he9; exact z7) (fun s9 hs9 => by rw [HL] at hs9; cases hs9)
  · rw [if_neg q1, if_neg q2] at z1
    have ht : 0 < t 0 2 := by omega
    have hc : t 0 7 < 8 := by omega
    refine j_aload_n dX13_readVisit_13 rfl rfl ?_
    refine j_iconst (v := nI 1) dX13_readVisit_14 (by decide) ?_
    refine cV13_254 (d1 := 10) rfl dX13_readVisit_15 (by decide) (Nat.le_of_ble_eq_true rfl) ?_
    refine m_readKnown (s := 3) (x := .inr (tE B n p)) hX hM hY hRd (hB.f F1) (hN.f hM F1) hN2 (by decide) z1 (fun v8 m8 l8 f8 z8 g8 => ?_)
    have F8 := F1.tr f8
    have z8 : MZ m8 l8 B n (es (fun _ => tE B n (tE B n p)) (fN B n N 3 (tE B n p))) := z8
    rcases s8 : fN B n N 3 (tE B n p) with e8 | q8
    · rw [s8] at z8
      have z8 : MZ m8 l8 B n (.inl e8) := z8
      have HL : liA B n (p, N, t) = .inl e8 := by rw [liA_5 hls ht hc]; simp only [liV, s8, eb_r, eb_l]
      refine j_istore_n (lv2 := [_, _, _, _]) dX13_readVisit_18 rfl (by decide) rfl rfl ?_
      refine j_aload_n dX13_readVisit_19 rfl rfl ?_
      refine j_iconst (v := nI 0) dX13_readVisit_20 (by decide) ?_
      refine cV13_254 (d1 := 10) rfl dX13_readVisit_21 (by decide) (Nat.le_of_ble_eq_true rfl) ?_
      refine m_readKnown (s := 1) (x := .inl e8) hX hM hY hRd (hB.f F8) (hN.f hM F8) hN2 (by decide) z8 (fun v9 m9 l9 f9 z9 g9 => ?_)
      have z9 : MZ m9 l9 B n (.inl e8) := z9
      have F9 := F8.tr f9
      refine j_istore_n (lv2 := [_, _, _, _]) dX13_readVisit_24 rfl (by decide) rfl rfl ?_
      refine j_aload_n dX13_readVisit_25 rfl rfl ?_
      refine j_ldcS13_305 dX13_readVisit_26 ?_
      refine j_iconst (v := nI 0) dX13_readVisit_29 (by decide) ?_
      refine j_bipush (v := nI 23) dX13_readVisit_30 (by decide) ?_
      refine cV13_225 (d1 := 9) rfl dX13_readVisit_32 (by decide) (Nat.le_of_ble_eq_true rfl) ?_
      refine m_readPart (i := 22) (lo := 0) (hi := 23) (x := .inl e8) hX (hB.f F9) (by decide) (by decide) (by decide) z9 (fun v10 m10 l10 f10 z10 g10 => ?_)
      have z10 : MZ m10 l10 B n (.inl e8) := z10
      have F10 := F9.tr f10
      refine j_istore_n (lv2 := [_, _, _, _]) dX13_readVisit_35 rfl (by decide) rfl rfl ?_
      refine j_aload_n dX13_readVisit_36 rfl rfl ?_
      refine gI13_79 rfl dX13_readVisit_37 ?_
      rw [z10.1]
      refine j_iconst (v := nI 5) dX13_readVisit_40 (by decide) ?_
      refine j_icmp_ne (tgt := 45) dX13_readVisit_41 (by decide) (fun h41 => absurd (by decide) h41) (fun h41 => ?_)
      refine j_vret rfl dX13_readVisit_44 ?_
      exact hp m10 l10 (F10.fm M) (fun e9 he9 => by rw [HL] at he9; cases he9; exact z10) (fun s9 hs9 => by rw [HL] at hs9; cases hs9)
    · rw [s8] at z8
      have z8 : MZ m8 l8 B n (.inr (tE B n (tE B n p))) := z8
      have w8 : v8 = nI q8 := g8 _ q8 rfl s8
      subst w8
      have b8 := fN_lt hJ s8
      simp only [true_implies, Nat.reduceEqDiff, false_implies, and_true, true_and] at b8
      refine j_istore_n (lv2 := [_, _, _, _]) dX13_readVisit_18 rfl (by decide) rfl rfl ?_
      refine j_aload_n dX13_readVisit_19 rfl rfl ?_
      refine j_iconst (v := nI 0) dX13_readVisit_20 (by decide) ?_
      refine cV13_254 (d1 := 10) rfl dX13_readVisit_21 (by decide) (Nat.le_of_ble_eq_true rfl) ?_
      refine m_readKnown (s := 1) (x := .inr (tE B n (tE B n p))) hX hM hY hRd (hB.f F8) (hN.f hM F8) hN2 (by decide) z8 (fun v11 m11 l11 f11 z11 g11 => ?_)
      have F11 := F8.tr f11
      have z11 : MZ m11 l11 B n (es (fun _ => tE B n (tE B n (tE B n p))) (fN B n N 1 (tE B n (tE B n p)))) := z11
      rcases s11 : fN B n N 1 (tE B n (tE B n p)) with e11 | q11
      · rw [s11] at z11
        have z11 : MZ m11 l11 B n (.inl e11) := z11
        have HL : liA B n (p, N, t) = .inl e11 := by rw [liA_5 hls ht hc]; simp only [liV, s8, s11, eb_r, eb_l]
        refine j_istore_n (lv2 := [_, _, _, _]) dX13_readVisit_24 rfl (by decide) rfl rfl ?_
        refine j_aload_n dX13_readVisit_25 rfl rfl ?_
        refine j_ldcS13_305 dX13_readVisit_26 ?_
        refine j_iconst (v := nI 0) dX13_readVisit_29 (by decide) ?_
        refine j_bipush (v := nI 23) dX13_readVisit_30 (by decide) ?_
        refine cV13_225 (d1 := 9) rfl dX13_readVisit_32 (by decide) (Nat.le_of_ble_eq_true rfl) ?_
        refine m_readPart (i := 22) (lo := 0) (hi := 23) (x := .inl e11) hX (hB.f F11) (by decide) (by decide) (by decide) z11 (fun v12 m12 l12 f12 z12 g12 => ?_)
        have z12 : MZ m12 l12 B n (.inl e11) := z12
        have F12 := F11.tr f12
        refine j_istore_n (lv2 := [_, _, _, _]) dX13_readVisit_35 rfl (by decide) rfl rfl ?_
        refine j_aload_n dX13_readVisit_36 rfl rfl ?_
        refine gI13_79 rfl dX13_readVisit_37 ?_
        rw [z12.1]
        refine j_iconst (v := nI 5) dX13_readVisit_40 (by decide) ?_
        refine j_icmp_ne (tgt := 45) dX13_readVisit_41 (by decide) (fun h41 => absurd (by decide) h41) (fun h41 => ?_)
        refine j_vret rfl dX13_readVisit_44 ?_
        exact hp m12 l12 (F12.fm M) (fun e9 he9 => by rw [HL] at he9; cases he9; exact z12) (fun s9 hs9 => by rw [HL] at hs9; cases hs9)
      · rw [s11] at z11
        have z11 : MZ m11 l11 B n (.inr (tE B n (tE B n (tE B n p)))) := z11
        have w11 : v11 = nI q11 := g11 _ q11 rfl s11
        subst w11
        have b11 := fN_lt hJ s11
        simp only [true_implies, Nat.reduceEqDiff, false_implies, and_true, true_and] at b11
        refine j_istore_n (lv2 := [_, _, _, _]) dX13_readVisit_24 rfl (by decide) rfl rfl ?_
        refine j_aload_n dX13_readVisit_25 rfl rfl ?_
        refine j_ldcS13_305 dX13_readVisit_26 ?_
        refine j_iconst (v := nI 0) dX13_readVisit_29 (by decide) ?_
        refine j_bipush (v := nI 23) dX13_readVisit_30 (by decide) ?_
        refine cV13_225 (d1 := 9) rfl dX13_readVisit_32 (by decide) (Nat.le_of_ble_eq_true rfl) ?_
        refine m_readPart (i := 22) (lo := 0) (hi := 23) (x := .inr (tE B n (tE B n (tE B n p)))) hX (hB.f F11) (by decide) (by decide) (by decide) z11 (fun v13 m13 l13 f13 z13 g13 => ?_)
        have F13 := F11.tr f13
        have z13 : MZ m13 l13 B n (es Prod.fst (eb (pW B n 22 (tE B n (tE B n (tE B n p)))) (pN B n 0 23))) := z13
        have g13 : ∀ q, eb (pW B n 22 (tE B n (tE B n (tE B n p)))) (pN B n 0 23) = .inr q → v13 = nI q.2 := g13
        have hst : (∃ e, pW B n 22 (tE B n (tE B n (tE B n p))) = .inl e) ∨ (∃ r e, pW B n 22 (tE B n (tE B n (tE B n p))) = .inr r ∧ pN B n 0 23 r = .inl e) ∨ ∃ r q, pW B n 22 (tE B n (tE B n (tE B n p))) = .inr r ∧ pN B n 0 23 r = .inr q := by
          cases s0 : pW B n 22 (tE B n (tE B n (tE B n p))) with
          | inl e => exact Or.inl ⟨e, rfl⟩
          | inr r =>
            cases u0 : pN B n 0 23 r with
            | inl e => exact Or.inr (Or.inl ⟨r, e, rfl, u0⟩)
            | inr q => exact Or.inr (Or.inr ⟨r, q, rfl, u0⟩)
        rcases hst with ⟨e13, s13⟩ | ⟨r13, e13, s13, u13⟩ | ⟨r13, q13, s13, u13⟩
        · rw [s13] at z13
          have z13 : MZ m13 l13 B n (.inl e13) := z13
          have HL : liA B n (p, N, t) = .inl e13 := by rw [liA_5 hls ht hc]; simp only [liV, s8, s11, s13, eb_r, eb_l]
          refine j_istore_n (lv2 := [_, _, _, _]) dX13_readVisit_35 rfl (by decide) rfl rfl ?_
          refine j_aload_n dX13_readVisit_36 rfl rfl ?_
          refine gI13_79 rfl dX13_readVisit_37 ?_
          rw [z13.1]
          refine j_iconst (v := nI 5) dX13_readVisit_40 (by decide) ?_
          refine j_icmp_ne (tgt := 45) dX13_readVisit_41 (by decide) (fun h41 => absurd (by decide) h41) (fun h41 => ?_)
          refine j_vret rfl dX13_readVisit_44 ?_
          exact hp m13 l13 (F13.fm M) (fun e9 he9 => by rw [HL] at he9; cases he9; exact z13) (fun s9 hs9 => by rw [HL] at hs9; cases hs9)
        · rw [s13, eb_r, u13] at z13
          have z13 : MZ m13 l13 B n (.inl e13) := z13
          have HL : liA B n (p, N, t) = .inl e13 := by rw [liA_5 hls ht hc]; simp only [liV, s8, s11, s13, u13, eb_r, eb_l]
          refine j_istore_n (lv2 := [_, _, _, _]) dX13_readVisit_35 rfl (by decide) rfl rfl ?_
          refine j_aload_n dX13_readVisit_36 rfl rfl ?_
          refine gI13_79 rfl dX13_readVisit_37 ?_
          rw [z13.1]
          refine j_iconst (v := nI 5) dX13_readVisit_40 (by decide) ?_
          refine j_icmp_ne (tgt := 45) dX13_readVisit_41 (by decide) (fun h41 => absurd (by decide) h41) (fun h41 => ?_)
          refine j_vret rfl dX13_readVisit_44 ?_
          exact hp m13 l13 (F13.fm M) (fun e9 he9 => by rw [HL] at he9; cases he9; exact z13) (fun s9 hs9 => by rw [HL] at hs9; cases hs9)
        · rw [s13, eb_r, u13] at z13
          have z13 : MZ m13 l13 B n (.inr q13.1) := z13
          have w13 : v13 = nI q13.2 := g13 q13 (by rw [s13, eb_r, u13])
          subst w13
          have b13 := pN_r u13
          refine j_istore_n (lv2 := [_, _, _, _]) dX13_readVisit_35 rfl (by decide) rfl rfl ?_
          refine j_aload_n dX13_readVisit_36 rfl rfl ?_
          refine gI13_79 rfl dX13_readVisit_37 ?_
          rw [z13.2.1.2.1]
          refine j_iconst (v := nI 5) dX13_readVisit_40 (by decide) ?_
          refine j_icmp_ne (tgt := 45) dX13_readVisit_41 (by decide) (fun h41 => ?_) (fun h41 => by exfalso; have h6 := sM_le (tS_le B n (q13.1)); rw [nI_eq (by omega) (by decide)] at h41; omega)
          refine j_aload_n dX13_readVisit_45 rfl rfl ?_
          refine gR13_157 rfl dX13_readVisit_46 hRd ?_
          refine gR13_307 (kM0 hM) dX13_readVisit_49 (xM11 hY) ?_
          refine j_aload_n dX13_readVisit_52 rfl rfl ?_
          refine gR13_157 rfl dX13_readVisit_53 hRd ?_
          refine gI13_302 (kM0 hM) dX13_readVisit_56 ?_
          rw [show m13 M 7 = nI (t 0 7) from (hR.f hM F13).1 7 (by decide)]
          refine j_iload_n dX13_readVisit_59 rfl rfl ?_
          refine j_iast (kM11 hM) (inT (lM11 hM) (by have := hg 0 7; show t 0 7 < 8; omega) (by decide)) dX13_readVisit_60 ?_
          rw [nI_clamp (by have := hg 0 7; omega)]
          have FF14 := (F13.fm M).pu hM (a := M + 11) (j := t 0 7) (by omega) (nI (q8))
          have zz14 := z13.pu (a := M + 11) (j := t 0 7) (by omega) (nI (q8))
          have rr14 := (hR.f hM F13).put (r := 11) (i := t 0 7) (x := q8) (by decide) (by decide)
          have nn14 := (hN.f hM F13).pu (r := 11) (i := t 0 7) (by decide) (fun q => absurd q (by decide)) (nI (q8))
          generalize up m13 (M + 11) (t 0 7) (nI (q8)) = y14 at FF14 zz14 rr14 nn14 ⊢
          refine j_aload_n dX13_readVisit_61 rfl rfl ?_
          refine gR13_157 rfl dX13_readVisit_62 hRd ?_
          refine gR13_310 (kM0 hM) dX13_readVisit_65 (xM12 hY) ?_
          refine j_aload_n dX13_readVisit_68 rfl rfl ?_
          refine gR13_157 rfl dX13_readVisit_69 hRd ?_
          refine gI13_302 (kM0 hM) dX13_readVisit_72 ?_
          rw [show y14 M 7 = nI (t 0 7) from rr14.1 7 (by decide)]
          refine j_iload_n dX13_readVisit_75 rfl rfl ?_
          refine j_iast (kM12 hM) (inT (lM12 hM) (by have := hg 0 7; show t 0 7 < 8; omega) (by decide)) dX13_readVisit_76 ?_
          rw [nI_clamp (by have := hg 0 7; omega)]
          have FF15 := FF14.pu hM (a := M + 12) (j := t 0 7) (by omega) (nI (q11))
          have zz15 := zz14.pu (a := M + 12) (j := t 0 7) (by omega) (nI (q11))
          have rr15 := rr14.put (r := 12) (i := t 0 7) (x := q11) (by decide) (by decide)
          have nn15 := nn14.pu (r := 12) (i := t 0 7) (by decide) (fun q => absurd q (by decide)) (nI (q11))
          generalize up y14 (M + 12) (t 0 7) (nI (q11)) = y15 at FF15 zz15 rr15 nn15 ⊢
          refine j_aload_n dX13_readVisit_77 rfl rfl ?_
          refine gR13_157 rfl dX13_readVisit_78 hRd ?_
          refine gR13_313 (kM0 hM) dX13_readVisit_81 (xM13 hY) ?_
          refine j_aload_n dX13_readVisit_84 rfl rfl ?_
          refine gR13_157 rfl dX13_readVisit_85 hRd ?_
          refine gI13_302 (kM0 hM) dX13_readVisit_88 ?_
          rw [show y15 M 7 = nI (t 0 7) from rr15.1 7 (by decide)]
          refine j_iload_n dX13_readVisit_91 rfl rfl ?_
          refine j_iast (kM13 hM) (inT (lM13 hM) (by have := hg 0 7; show t 0 7 < 8; omega) (by decide)) dX13_readVisit_92 ?_
          rw [nI_clamp (by have := hg 0 7; omega)]
          have FF16 := FF15.pu hM (a := M + 13) (j := t 0 7) (by omega) (nI (q13.2))
          have zz16 := zz15.pu (a := M + 13) (j := t 0 7) (by omega) (nI (q13.2))
          have rr16 := rr15.put (r := 13) (i := t 0 7) (x := q13.2) (by decide) (by decide)
          have nn16 := nn15.pu (r := 13) (i := t 0 7) (by decide) (fun q => absurd q (by decide)) (nI (q13.2))
          generalize up y15 (M + 13) (t 0 7) (nI (q13.2)) = y16 at FF16 zz16 rr16 nn16 ⊢
          refine j_aload_n dX13_readVisit_93 rfl rfl ?_
          refine gR13_157 rfl dX13_readVisit_94 hRd ?_
          refine j_dup dX13_readVisit_97 rfl ?_
          refine gI13_302 (kM0 hM) dX13_readVisit_98 ?_
          rw [show y16 M 7 = nI (t 0 7) from rr16.1 7 (by decide)]
          refine j_iconst (v := nI 1) dX13_readVisit_101 (by decide) ?_
          refine j_iadd dX13_readVisit_102 ?_
          rw [nI_add]
          refine pI13_302 (kM0 hM) dX13_readVisit_103 ?_
          have FF17 := FF16.pu hM (a := M) (j := 7) (by omega) (nI ((t 0 7) + 1))
          have zz17 := zz16.pu (a := M) (j := 7) (by omega) (nI ((t 0 7) + 1))
          have rr17 := rr16.put0 (i := 7) (x := (t 0 7) + 1)
          have nn17 := nn16.pu (r := 0) (i := 7) (by decide) (fun _ => by decide) (nI ((t 0 7) + 1))
          rw [Nat.add_zero] at nn17
          generalize up y16 (M) (7) (nI ((t 0 7) + 1)) = y17 at FF17 zz17 rr17 nn17 ⊢
          refine j_vret rfl dX13_readVisit_106 ?_
          have HL : liA B n (p, N, t) = .inr (q13.1, N, ut (ut (ut (ut t 11 (t 0 7) q8) 12 (t 0 7) q11) 13 (t 0 7) q13.2) 0 7 (t 0 7 + 1)) := by rw [liA_5 hls ht hc]; simp only [liV, s8, s11, s13, u13, eb_r, eb_l]
          refine hp y17 l13 FF17 (fun e9 he9 => by rw [HL] at he9; cases he9) (fun s9 hs9 => ?_)
          rw [HL] at hs9
          cases hs9
          exact ⟨zz17, rr17, nn17⟩
theorem m_readPrint (hX : XM mr) (hM : MM M) (hY : XT mr M) (hRd : mr 1000 4 = some M) (hB : RBM mi B n) (hg : GB t) (hW : WT t) (hI : NI N t) (hU : t 0 2 = 0 → t 0 3 = 0 ∧ t 0 4 = 0 ∧ t 0 5 = 0 ∧ t 0 6 = 0 ∧ t 0 7 = 0 ∧ t 0 8 = 0) (hR : RM mi M t) (hN : RNM mi ml M N) (hz : MZ mi ml B n (.inr p)) (h1 : tS B n p = 1) (hls : lsN B n p = 6) (hp : hML post B n M mi ml mr dom (liA B n (p, N, t))) : CT G 11 0 0 yX13_readPrint cX13_readPrint 4 none [.ref 1000] mi ml mr dom post := by
  have w := hW.1
  have hge := hM.ge
  have hJ := hI.nj
  have hN2 := fun k hk => (hI.2.2 k hk).2.2
  have hsum := hI.2.1
  refine enter 3 (by decide) rfl rfl (fun X => ?_)
  refine j_aload_n dX13_readPrint_0 rfl rfl ?_
  refine j_aload_n dX13_readPrint_1 rfl rfl ?_
  refine gR13_157 rfl dX13_readPrint_2 hRd ?_
  refine gI13_316 (kM0 hM) dX13_readPrint_5 ?_
  rw [hR.1 8 (by decide)]
  refine j_iconst (v := nI 5) dX13_readPrint_8 (by decide) ?_
  refine cV13_236 (d1 := 3) rfl dX13_readPrint_9 (by decide) (Nat.le_of_ble_eq_true rfl) ?_
  refine m_lineB hX hM hg hRd hB (by omega) (by decide) (hR.1 2 (by decide)) hz h1 (fun m1 l1 f1 z1 => ?_)
  have F1 := f1
  have hcs : t 0 8 = 5 ∨ (t 0 8 ≠ 5 ∧ t 0 2 = 0) ∨ (t 0 8 ≠ 5 ∧ t 0 2 ≠ 0) := by omega
  rcases hcs with q1 | ⟨q1, q2⟩ | ⟨q1, q2⟩
  · rw [if_pos q1] at z1
    have ht : 0 < t 0 2 := by rcases Nat.eq_zero_or_pos (t 0 2) with q | q; have := hU q; omega; exact q
    have HL := liA_6m (N := N) (B := B) (n := n) hls ht (by omega)
    refine j_aload_n dX13_readPrint_12 rfl rfl ?_
    refine j_iconst (v := nI 0) dX13_readPrint_13 (by decide) ?_
    refine cV13_254 (d1 := 10) rfl dX13_readPrint_14 (by decide) (Nat.le_of_ble_eq_true rfl) ?_
    refine m_readKnown (s := 1) (x := .inl (5, tA B n p)) hX hM hY hRd (hB.f F1) (hN.f hM F1) hN2 (by decide) z1 (fun v2 m2 l2 f2 z2 g2 => ?_)
    have z2 : MZ m2 l2 B n (.inl (5, tA B n p)) := z2
    have F2 := F1.tr f2
    refine j_istore_n (lv2 := [_, _, _, _]) dX13_readPrint_17 rfl (by decide) rfl rfl ?_
    refine j_aload_n dX13_readPrint_18 rfl rfl ?_
    refine j_iconst (v := nI 2) dX13_readPrint_19 (by decide) ?_
    refine cV13_273 (d1 := 3) rfl dX13_readPrint_20 (by decide) (Nat.le_of_ble_eq_true rfl) ?_
    refine m_readLook2 (x := .inl (5, tA B n p)) hX (hB.f F2) z2 (fun v3 m3 l3 f3 z3 g3 => ?_)
    have z3 : MZ m3 l3 B n (.inl (5, tA B n p)) := z3
    have F3 := F2.tr f3
    refine j_istore_n (lv2 := [_, _, _, _]) dX13_readPrint_23 rfl (by decide) rfl rfl ?_
    refine j_aload_n dX13_readPrint_24 rfl rfl ?_
    refine j_ldcS13_319 dX13_readPrint_25 ?_
    refine j_iconst (v := nI 0) dX13_readPrint_28 (by decide) ?_
    refine j_bipush (v := nI 20) dX13_readPrint_29 (by decide) ?_
    refine cV13_225 (d1 := 9) rfl dX13_readPrint_31 (by decide) (Nat.le_of_ble_eq_true rfl) ?_
    refine m_readPart (i := 23) (lo := 0) (hi := 20) (x := .inl (5, tA B n p)) hX (hB.f F3) (by decide) (by decide) (by decide) z3 (fun v4 m4 l4 f4 z4 g4 => ?_)
    have z4 : MZ m4 l4 B n (.inl (5, tA B n p)) := z4
    have F4 := F3.tr f4
    refine j_istore_n (lv2 := [_, _, _, _]) dX13_readPrint_34 rfl (by decide) rfl rfl ?_
    refine j_aload_n dX13_readPrint_35 rfl rfl ?_
    refine gI13_79 rfl dX13_readPrint_36 ?_
    rw [z4.1]
    refine j_iconst (v := nI 5) dX13_readPrint_39 (by decide) ?_
    refine j_icmp_ne (tgt := 44) dX13_readPrint_40 (by decide) (fun h40 => absurd (by decide) h40) (fun h40 => ?_)
    refine j_vret rfl dX13_readPrint_43 ?_
    exact hp m4 l4 (F4.fm M) (fun e9 he9 => by rw [HL] at he9; cases he9; exact z4) (fun s9 hs9 => by rw [HL] at hs9; cases hs9)
  · rw [if_neg q1, if_pos q2] at z1
    have HL := liA_n (N := N) (B := B) (n := n) (p := p) (t := t) (by omega) (by omega) (by omega)
    refine j_aload_n dX13_readPrint_12 rfl rfl ?_
    refine j_iconst (v := nI 0) dX13_readPrint_13 (by decide) ?_
    refine cV13_254 (d1 := 10) rfl dX13_readPrint_14 (by decide) (Nat.le_of_ble_eq_true rfl) ?_
    refine m_readKnown (s := 1) (x := .inl (6, tA B n p)) hX hM hY hRd (hB.f F1) (hN.f hM F1) hN2 (by decide) z1 (fun v5 m5 l5 f5 z5 g5 => ?_)
    have z5 : MZ m5 l5 B n (.inl (6, tA B n p)) := z5
    have F5 := F1.tr f5
    refine j_istore_n (lv2 := [_, _, _, _]) dX13_readPrint_17 rfl (by decide) rfl rfl ?_
    refine j_aload_n dX13_readPrint_18 rfl rfl ?_
    refine j_iconst (v := nI 2) dX13_readPrint_19 (by decide) ?_
    refine cV13_273 (d1 := 3) rfl dX13_readPrint_20 (by decide) (Nat.le_of_ble_eq_true rfl) ?_
    refine m_readLook2 (x := .inl (6, tA B n p)) hX (hB.f F5) z5 (fun v6 m6 l6 f6 z6 g6 => ?_)
    have z6 : MZ m6 l6 B n (.inl (6, tA B n p)) := z6
    have F6 := F5.tr f6
    refine j_istore_n (lv2 := [_, _, _, _]) dX13_readPrint_23 rfl (by decide) rfl rfl ?_
    refine j_aload_n dX13_readPrint_24 rfl rfl ?_
    refine j_ldcS13_319 dX13_readPrint_25 ?_
    refine j_iconst (v := nI 0) dX13_readPrint_28 (by decide) ?_
    refine j_bipush (v := nI 20) dX13_readPrint_29 (by decide) ?_
    refine cV13_225 (d1 := 9) rfl dX13_readPrint_31 (by decide) (Nat.le_of_ble_eq_true rfl) ?_
    refine m_readPart (i := 23) (lo := 0) (hi := 20) (x := .inl (6, tA B n p)) hX (hB.f F6) (by decide) (by decide) (by decide) z6 (fun v7 m7 l7 f7 z7 g7 => ?_)
    have z7 : MZ m7 l7 B n (.inl (6, tA B n p)) := z7
    have F7 := F6.tr f7
    refine j_istore_n (lv2 := [_, _, _, _]) dX13_readPrint_34 rfl (by decide) rfl rfl ?_
    refine j_aload_n dX13_readPrint_35 rfl rfl ?_
    refine gI13_79 rfl dX13_readPrint_36 ?_
    rw [z7.1]
    refine j_iconst (v := nI 5) dX13_readPrint_39 (by decide) ?_
    refine j_icmp_ne (tgt := 44) dX13_readPrint_40 (by decide) (fun h40 => absurd (by decide) h40) (fun h40 => ?_)
    refine j_vret rfl dX13_readPrint_43 ?_
    exact hp m7 l7 (F7.fm M) (fun e9 he9 => by rw [HL] at he9; cases he9; exact z7) (fun s9 hs9 => by rw [HL] at hs9; cases hs9)
  · rw [if_neg q1, if_neg q2] at z1
    have ht : 0 < t 0 2 := by omega
    have hc : t 0 8 < 5 := by omega
    refine j_aload_n dX13_readPrint_12 rfl rfl ?_
    refine j_iconst (v := nI 0) dX13_readPrint_13 (by decide) ?_
    refine cV13_254 (d1 := 10) rfl dX13_readPrint_14 (by decide) (Nat.le_of_ble_eq_true rfl) ?_
    refine m_readKnown (s := 1) (x := .inr (tE B n p)) hX hM hY hRd (hB.f F1) (hN.f hM F1) hN2 (by decide) z1 (fun v8 m8 l8 f8 z8 g8 => ?_)
    have F8 := F1.tr f8
    have z8 : MZ m8 l8 B n (es (fun _ => tE B n (tE B n p)) (fN B n N 1 (tE B n p))) := z8
    rcases s8 : fN B n N 1 (tE B n p) with e8 | q8
    · rw [s8] at z8
      have z8 : MZ m8 l8 B n (.inl e8) := z8
      have HL : liA B n (p, N, t) = .inl e8 := by rw [liA_6 hls ht hc]; simp only [liK, s8, eb_r, eb_l]
      refine j_istore_n (lv2 := [_, _, _, _]) dX13_readPrint_17 rfl (by decide) rfl rfl ?_
      refine j_aload_n dX13_readPrint_18 rfl rfl ?_
      refine j_iconst (v := nI 2) dX13_readPrint_19 (by decide) ?_
      refine cV13_273 (d1 := 3) rfl dX13_readPrint_20 (by decide) (Nat.le_of_ble_eq_true rfl) ?_
      refine m_readLook2 (x := .inl e8) hX (hB.f F8) z8 (fun v9 m9 l9 f9 z9 g9 => ?_)
      have z9 : MZ m9 l9 B n (.inl e8) := z9
      have F9 := F8.tr f9
      refine j_istore_n (lv2 := [_, _, _, _]) dX13_readPrint_23 rfl (by decide) rfl rfl ?_
      refine j_aload_n dX13_readPrint_24 rfl rfl ?_
      refine j_ldcS13_319 dX13_readPrint_25 ?_
      refine j_iconst (v := nI 0) dX13_readPrint_28 (by decide) ?_
      refine j_bipush (v := nI 20) dX13_readPrint_29 (by decide) ?_
      refine cV13_225 (d1 := 9) rfl dX13_readPrint_31 (by decide) (Nat.le_of_ble_eq_true rfl) ?_
      refine m_readPart (i := 23) (lo := 0) (hi := 20) (x := .inl e8) hX (hB.f F9) (by decide) (by decide) (by decide) z9 (fun v10 m10 l10 f10 z10 g10 => ?_)
      have z10 : MZ m10 l10 B n (.inl e8) := z10
      have F10 := F9.tr f10
      refine j_istore_n (lv2 := [_, _, _, _]) dX13_readPrint_34 rfl (by decide) rfl rfl ?_
      refine j_aload_n dX13_readPrint_35 rfl rfl ?_
      refine gI13_79 rfl dX13_readPrint_36 ?_
      rw [z10.1]
      refine j_iconst (v := nI 5) dX13_readPrint_39 (by decide) ?_
      refine j_icmp_ne (tgt := 44) dX13_readPrint_40 (by decide) (fun h40 => absurd (by decide) h40) (fun h40 => ?_)
      refine j_vret rfl dX13_readPrint_43 ?_
      exact hp m10 l10 (F10.fm M) (fun e9 he9 => by rw [HL] at he9; cases he9; exact z10) (fun s9 hs9 => by rw [HL] at hs9; cases hs9)
    · rw [s8] at z8
      have z8 : MZ m8 l8 B n (.inr (tE B n (tE B n p))) := z8
      have w8 : v8 = nI q8 := g8 _ q8 rfl s8
      subst w8
      have b8 := fN_lt hJ s8
      simp only [true_implies, Nat.reduceEqDiff, false_implies, and_true, true_and] at b8
      refine j_istore_n (lv2 := [_, _, _, _]) dX13_readPrint_17 rfl (by decide) rfl rfl ?_
      refine j_aload_n dX13_readPrint_18 rfl rfl ?_
      refine j_iconst (v := nI 2) dX13_readPrint_19 (by decide) ?_
      refine cV13_273 (d1 := 3) rfl dX13_readPrint_20 (by decide) (Nat.le_of_ble_eq_true rfl) ?_
      refine m_readLook2 (x := .inr (tE B n (tE B n p))) hX (hB.f F8) z8 (fun v11 m11 l11 f11 z11 g11 => ?_)
      have F11 := F8.tr f11
      have z11 : MZ m11 l11 B n (es Prod.fst (pL B n 2 (tE B n (tE B n p)))) := z11
      rcases s11 : pL B n 2 (tE B n (tE B n p)) with e11 | q11
      · rw [s11] at z11
        have z11 : MZ m11 l11 B n (.inl e11) := z11
        have HL : liA B n (p, N, t) = .inl e11 := by rw [liA_6 hls ht hc]; simp only [liK, s8, s11, eb_r, eb_l]
        refine j_istore_n (lv2 := [_, _, _, _]) dX13_readPrint_23 rfl (by decide) rfl rfl ?_
        refine j_aload_n dX13_readPrint_24 rfl rfl ?_
        refine j_ldcS13_319 dX13_readPrint_25 ?_
        refine j_iconst (v := nI 0) dX13_readPrint_28 (by decide) ?_
        refine j_bipush (v := nI 20) dX13_readPrint_29 (by decide) ?_
        refine cV13_225 (d1 := 9) rfl dX13_readPrint_31 (by decide) (Nat.le_of_ble_eq_true rfl) ?_
        refine m_readPart (i := 23) (lo := 0) (hi := 20) (x := .inl e11) hX (hB.f F11) (by decide) (by decide) (by decide) z11 (fun v12 m12 l12 f12 z12 g12 => ?_)
        have z12 : MZ m12 l12 B n (.inl e11) := z12
        have F12 := F11.tr f12
        refine j_istore_n (lv2 := [_, _, _, _]) dX13_readPrint_34 rfl (by decide) rfl rfl ?_
        refine j_aload_n dX13_readPrint_35 rfl rfl ?_
        refine gI13_79 rfl dX13_readPrint_36 ?_
        rw [z12.1]
        refine j_iconst (v := nI 5) dX13_readPrint_39 (by decide) ?_
        refine j_icmp_ne (tgt := 44) dX13_readPrint_40 (by decide) (fun h40 => absurd (by decide) h40) (fun h40 => ?_)
        refine j_vret rfl dX13_readPrint_43 ?_
        exact hp m12 l12 (F12.fm M) (fun e9 he9 => by rw [HL] at he9; cases he9; exact z12) (fun s9 hs9 => by rw [HL] at hs9; cases hs9)
      · rw [s11] at z11
        have z11 : MZ m11 l11 B n (.inr q11.1) := z11
        have w11 : v11 = nI q11.2 := g11 q11 s11
        subst w11
        have b11 := pL_r s11
        refine j_istore_n (lv2 := [_, _, _, _]) dX13_readPrint_23 rfl (by decide) rfl rfl ?_
        refine j_aload_n dX13_readPrint_24 rfl rfl ?_
        refine j_ldcS13_319 dX13_readPrint_25 ?_
        refine j_iconst (v := nI 0) dX13_readPrint_28 (by decide) ?_
        refine j_bipush (v := nI 20) dX13_readPrint_29 (by decide) ?_
        refine cV13_225 (d1 := 9) rfl dX13_readPrint_31 (by decide) (Nat.le_of_ble_eq_true rfl) ?_
        refine m_readPart (i := 23) (lo := 0) (hi := 20) (x := .inr q11.1) hX (hB.f F11) (by decide) (by decide) (by decide) z11 (fun v13 m13 l13 f13 z13 g13 => ?_)
        have F13 := F11.tr f13
        have z13 : MZ m13 l13 B n (es Prod.fst (eb (pW B n 23 (q11.1)) (pN B n 0 20))) := z13
        have g13 : ∀ q, eb (pW B n 23 (q11.1)) (pN B n 0 20) = .inr q → v13 = nI q.2 := g13
        have hst : (∃ e, pW B n 23 (q11.1) = .inl e) ∨ (∃ r e, pW B n 23 (q11.1) = .inr r ∧ pN B n 0 20 r = .inl e) ∨ ∃ r q, pW B n 23 (q11.1) = .inr r ∧ pN B n 0 20 r = .inr q := by
          cases s0 : pW B n 23 (q11.1) with
          | inl e => exact Or.inl ⟨e, rfl⟩
          | inr r =>
            cases u0 : pN B n 0 20 r with
            | inl e => exact Or.inr (Or.inl ⟨r, e, rfl, u0⟩)
            | inr q => exact Or.inr (Or.inr ⟨r, q, rfl, u0⟩)
        rcases hst with ⟨e13, s13⟩ | ⟨r13, e13, s13, u13⟩ | ⟨r13, q13, s13, u13⟩
        · rw [s13] at z13
          have z13 : MZ m13 l13 B n (.inl e13) := z13
          have HL : liA B n (p, N, t) = .inl e13 := by rw [liA_6 hls ht hc]; simp only [liK, s8, s11, s13, eb_r, eb_l]
          refine j_istore_n (lv2 := [_, _, _, _]) dX13_readPrint_34 rfl (by decide) rfl rfl ?_
          refine j_aload_n dX13_readPrint_35 rfl rfl ?_
          refine gI13_79 rfl dX13_readPrint_36 ?_
          rw [z13.1]
          refine j_iconst (v := nI 5) dX13_readPrint_39 (by decide) ?_
          refine j_icmp_ne (tgt := 44) dX13_readPrint_40 (by decide) (fun h40 => absurd (by decide) h40) (fun h40 => ?_)
          refine j_vret rfl dX13_readPrint_43 ?_
          exact hp m13 l13 (F13.fm M) (fun e9 he9 => by rw [HL] at he9; cases he9; exact z13) (fun s9 hs9 => by rw [HL] at hs9; cases hs9)
        · rw [s13, eb_r, u13] at z13
          have z13 : MZ m13 l13 B n (.inl e13) := z13
          have HL : liA B n (p, N, t) = .inl e13 := by rw [liA_6 hls ht hc]; simp only [liK, s8, s11, s13, u13, eb_r, eb_l]
          refine j_istore_n (lv2 := [_, _, _, _]) dX13_readPrint_34 rfl (by decide) rfl rfl ?_
          refine j_aload_n dX13_readPrint_35 rfl rfl ?_
          refine gI13_79 rfl dX13_readPrint_36 ?_
          rw [z13.1]
          refine j_iconst (v := nI 5) dX13_readPrint_39 (by decide) ?_
          refine j_icmp_ne (tgt := 44) dX13_readPrint_40 (by decide) (fun h40 => absurd (by decide) h40) (fun h40 => ?_)
          refine j_vret rfl dX13_readPrint_43 ?_
          exact hp m13 l13 (F13.fm M) (fun e9 he9 => by rw [HL] at he9; cases he9; exact z13) (fun s9 hs9 => by rw [HL] at hs9; cases hs9)
        · rw [s13, eb_r, u13] at z13
          have z13 : MZ m13 l13 B n (.inr q13.1) := z13
          have w13 : v13 = nI q13.2 := g13 q13 (by rw [s13, eb_r, u13])
          subst w13
          have b13 := pN_r u13
          refine j_istore_n (lv2 := [_, _, _, _]) dX13_readPrint_34 rfl (by decide) rfl rfl ?_
          refine j_aload_n dX13_readPrint_35 rfl rfl ?_
          refine gI13_79 rfl dX13_readPrint_36 ?_
          rw [z13.2.1.2.1]
          refine j_iconst (v := nI 5) dX13_readPrint_39 (by decide) ?_
          refine j_icmp_ne (tgt := 44) dX13_readPrint_40 (by decide) (fun h40 => ?_) (fun h40 => by exfalso; have h6 := sM_le (tS_le B n (q13.1)); rw [nI_eq (by omega) (by decide)] at h40; omega)
          refine j_aload_n dX13_readPrint_44 rfl rfl ?_
          refine gR13_157 rfl dX13_readPrint_45 hRd ?_
          refine gR13_321 (kM0 hM) dX13_readPrint_48 (xM14 hY) ?_
          refine j_aload_n dX13_readPrint_51 rfl rfl ?_
          refine gR13_157 rfl dX13_readPrint_52 hRd ?_
          refine gI13_316 (kM0 hM) dX13_readPrint_55 ?_
          rw [show m13 M 8 = nI (t 0 8) from (hR.f hM F13).1 8 (by decide)]
          refine j_iload_n dX13_readPrint_58 rfl rfl ?_
          refine j_iast (kM14 hM) (inT (lM14 hM) (by have := hg 0 8; show t 0 8 < 5; omega) (by decide)) dX13_readPrint_59 ?_
          rw [nI_clamp (by have := hg 0 8; omega)]
          have FF14 := (F13.fm M).pu hM (a := M + 14) (j := t 0 8) (by omega) (nI (q8))
          have zz14 := z13.pu (a := M + 14) (j := t 0 8) (by omega) (nI (q8))
          have rr14 := (hR.f hM F13).put (r := 14) (i := t 0 8) (x := q8) (by decide) (by decide)
          have nn14 := (hN.f hM F13).pu (r := 14) (i := t 0 8) (by decide) (fun q => absurd q (by decide)) (nI (q8))
          generalize up m13 (M + 14) (t 0 8) (nI (q8)) = y14 at FF14 zz14 rr14 nn14 ⊢
          refine j_aload_n dX13_readPrint_60 rfl rfl ?_
          refine gR13_157 rfl dX13_readPrint_61 hRd ?_
          refine gR13_324 (kM0 hM) dX13_readPrint_64 (xM15 hY) ?_
          refine j_aload_n dX13_readPrint_67 rfl rfl ?_
          refine gR13_157 rfl dX13_readPrint_68 hRd ?_
          refine gI13_316 (kM0 hM) dX13_readPrint_71 ?_
          rw [show y14 M 8 = nI (t 0 8) from rr14.1 8 (by decide)]
          refine j_iload_n dX13_readPrint_74 rfl rfl ?_
          refine j_iast (kM15 hM) (inT (lM15 hM) (by have := hg 0 8; show t 0 8 < 5; omega) (by decide)) dX13_readPrint_75 ?_
          rw [nI_clamp (by have := hg 0 8; omega)]
          have FF15 := FF14.pu hM (a := M + 15) (j := t 0 8) (by omega) (nI (q11.2))
          have zz15 := zz14.pu (a := M + 15) (j := t 0 8) (by omega) (nI (q11.2))
          have rr15 := rr14.put (r := 15) (i := t 0 8) (x := q11.2) (by decide) (by decide)
          have nn15 := nn14.pu (r := 15) (i := t 0 8) (by decide) (fun q => absurd q (by decide)) (nI (q11.2))
          generalize up y14 (M + 15) (t 0 8) (nI (q11.2)) = y15 at FF15 zz15 rr15 nn15 ⊢
          refine j_aload_n dX13_readPrint_76 rfl rfl ?_
          refine gR13_157 rfl dX13_readPrint_77 hRd ?_
          refine gR13_326 (kM0 hM) dX13_readPrint_80 (xM16 hY) ?_
          refine j_aload_n dX13_readPrint_83 rfl rfl ?_
          refine gR13_157 rfl dX13_readPrint_84 hRd ?_
          refine gI13_316 (kM0 hM) dX13_readPrint_87 ?_
          rw [show y15 M 8 = nI (t 0 8) from rr15.1 8 (by decide)]
          refine j_iload_n dX13_readPrint_90 rfl rfl ?_
          refine j_iast (kM16 hM) (inT (lM16 hM) (by have := hg 0 8; show t 0 8 < 5; omega) (by decide)) dX13_readPrint_91 ?_
          rw [nI_clamp (by have := hg 0 8; omega)]
          have FF16 := FF15.pu hM (a := M + 16) (j := t 0 8) (by omega) (nI (q13.2))
          have zz16 := zz15.pu (a := M + 16) (j := t 0 8) (by omega) (nI (q13.2))
          have rr16 := rr15.put (r := 16) (i := t 0 8) (x := q13.2) (by decide) (by decide)
          have nn16 := nn15.pu (r := 16) (i := t 0 8) (by decide) (fun q => absurd q (by decide)) (nI (q13.2))
          generalize up y15 (M + 16) (t 0 8) (nI (q13.2)) = y16 at FF16 zz16 rr16 nn16 ⊢
          refine j_aload_n dX13_readPrint_92 rfl rfl ?_
          refine gR13_157 rfl dX13_readPrint_93 hRd ?_
          refine j_dup dX13_readPrint_96 rfl ?_
          refine gI13_316 (kM0 hM) dX13_readPrint_97 ?_
          rw [show y16 M 8 = nI (t 0 8) from rr16.1 8 (by decide)]
          refine j_iconst (v := nI 1) dX13_readPrint_100 (by decide) ?_
          refine j_iadd dX13_readPrint_101 ?_
          rw [nI_add]
          refine pI13_316 (kM0 hM) dX13_readPrint_102 ?_
          have FF17 := FF16.pu hM (a := M) (j := 8) (by omega) (nI ((t 0 8) + 1))
          have zz17 := zz16.pu (a := M) (j := 8) (by omega) (nI ((t 0 8) + 1))
          have rr17 := rr16.put0 (i := 8) (x := (t 0 8) + 1)
          have nn17 := nn16.pu (r := 0) (i := 8) (by decide) (fun _ => by decide) (nI ((t 0 8) + 1))
          rw [Nat.add_zero] at nn17
          generalize up y16 (M) (8) (nI ((t 0 8) + 1)) = y17 at FF17 zz17 rr17 nn17 ⊢
          refine j_vret rfl dX13_readPrint_105 ?_
          have HL : liA B n (p, N, t) = .inr (q13.1, N, ut (ut (ut (ut t 14 (t 0 8) q8) 15 (t 0 8) q11.2) 16 (t 0 8) q13.2) 0 8 (t 0 8 + 1)) := by rw [liA_6 hls ht hc]; simp only [liK, s8, s11, s13, u13, eb_r, eb_l]
          refine hp y17 l13 FF17 (fun e9 he9 => by rw [HL] at he9; cases he9) (fun s9 hs9 => ?_)
          rw [HL] at hs9
          cases hs9
          exact ⟨zz17, rr17, nn17⟩
end M13m
