/-! the reference: lines -/
/-- the token's cells and one town may have changed -/
def FM (M : Nat) (mi : MI) (ml : ML) (mi' : MI) (ml' : ML) : Prop := (∀ a, a ≠ 1000 → (a < M ∨ M + 20 ≤ a) → mi' a = mi a) ∧ (∀ a, a ≠ 1000 → a ≠ M + 17 → ml' a = ml a) ∧ ∀ j, j < 8 ∨ 14 < j → mi' 1000 j = mi 1000 j
section M13l
variable {G : GG} {post : PT} {mi m : MI} {ml l : ML} {mr : MR} {dom : List Nat} {M : Nat} {t : TW} {B : Nat → Nat} {n p : Nat} {N : NS}
theorem FG.fm (M : Nat) (h : FG mi ml m l) : FM M mi ml m l := ⟨fun a x _ => h.1 a x, fun a x _ => h.2.1 a x, h.2.2⟩
theorem FM.pu (h : FM M mi ml m l) (hM : MM M) {a j : Nat} (ha : M ≤ a ∧ a < M + 20) (x : Int32) : FM M mi ml (up m a j x) l := by
  have hge := hM.ge
  exact ⟨fun b y z => by rw [up_off _ _ (by omega)]; exact h.1 b y z, h.2.1, fun i hi => by rw [up_off _ _ (by omega)]; exact h.2.2 i hi⟩
theorem FM.pl (h : FM M mi ml m l) (j : Nat) (x : Int64) : FM M mi ml m (upl l (M + 17) j x) := ⟨h.1, fun a y z => by rw [upl_off _ _ z]; exact h.2.1 a y z, h.2.2⟩
theorem MZ.pu {x : ER Nat} (h : MZ m l B n x) {a j : Nat} (ha : a ≠ 1000) (y : Int32) : MZ (up m a j y) l B n x := by
  have e : up m a j y 1000 = m 1000 := up_off _ _ (fun q => ha q.symm)
  cases x with
  | inl e0 => unfold MZ; rw [e]; exact h
  | inr p => unfold MZ TK; rw [e]; exact h
theorem MZ.pl {x : ER Nat} (h : MZ m l B n x) {a j : Nat} (ha : a ≠ 1000) (y : Int64) : MZ m (upl l a j y) B n x := by
  have e : upl l a j y 1000 = l 1000 := upl_off _ _ (fun q => ha q.symm)
  cases x with
  | inl e0 => exact h
  | inr p => unfold MZ TK; rw [e]; exact h
theorem RM.put (h : RM m M t) {r i x : Nat} (h1 : 1 ≤ r) (h2 : r ≤ 16) : RM (up m (M + r) i (nI x)) M (ut t r i x) := by
  refine ⟨fun j hj => ?_, fun r' a b j hj => ?_⟩
  · rw [up_off _ _ (by omega), ut_ne _ _ (by omega)]; exact h.1 j hj
  · by_cases q : r' = r
    · subst q
      by_cases q2 : j = i
      · subst q2; rw [up_at, ut_at]
      · rw [up_ne _ _ q2, ut_ne _ _ (fun z => q2 z.2)]; exact h.2 r' a b j hj
    · rw [up_off _ _ (by omega), ut_ne _ _ (fun z => q z.1)]; exact h.2 r' a b j hj
theorem RM.put0 (h : RM m M t) {i x : Nat} : RM (up m M i (nI x)) M (ut t 0 i x) := by
  refine ⟨fun j hj => ?_, fun r' a b j hj => ?_⟩
  · by_cases q2 : j = i
    · subst q2; rw [up_at, ut_at]
    · rw [up_ne _ _ q2, ut_ne _ _ (fun z => q2 z.2)]; exact h.1 j hj
  · rw [up_off _ _ (by omega), ut_ne _ _ (by omega)]; exact h.2 r' a b j hj
theorem RM.o (h : RM m M t) {a j : Nat} {x : Int32} (ha : a ≠ M → ∀ r, 1 ≤ r → r ≤ 16 → a ≠ M + r) (h9 : a = M → 9 ≤ j) : RM (up m a j x) M t := by
  refine ⟨fun i hi => ?_, fun r h1 h2 i hi => ?_⟩
  · by_cases q : M = a
    · subst q; have := h9 rfl; rw [up_ne _ _ (by omega)]; exact h.1 i hi
    · rw [up_off _ _ q]; exact h.1 i hi
  · by_cases q : a = M
    · rw [up_off _ _ (by omega)]; exact h.2 r h1 h2 i hi
    · rw [up_off _ _ (fun z => ha q r h1 h2 z.symm)]; exact h.2 r h1 h2 i hi
theorem RNM.pu (h : RNM m l M N) {r i : Nat} (hr : r ≤ 16) (h9 : r = 0 → i < 9) (x : Int32) : RNM (up m (M + r) i x) l M N := by
  unfold RNM
  rw [up_off _ _ (show M + 18 ≠ M + r by omega), up_off _ _ (show M + 19 ≠ M + r by omega)]
  refine ⟨h.1, ?_, h.2.2⟩
  by_cases q : r = 0
  · subst q; have := h9 rfl; rw [Nat.add_zero, up_ne _ _ (by omega)]; exact h.2.1
  · rw [up_off _ _ (by omega)]; exact h.2.1
theorem RM.f (h : RM mi M t) (hM : MM M) (f : FG mi ml m l) : RM m M t := RM_lo hM (fun n hn => f.1 n (by omega)) h
theorem frN_nN {s k : Nat} (h17 : N.1 < 17) : frN B n N p = es Prod.fst (nN B n N s k p) := by
  unfold frN nN
  by_cases hc : tS B n p = 1 ∧ lsN B n p = 7
  · have hcc : ¬ ¬ (tS B n p = 1 ∧ lsN B n p = 7) := fun q => q hc
    rw [if_neg hcc, if_neg hcc]
    by_cases h2 : ixN N (tH B n p) < N.1
    · rw [if_pos h2, if_pos (Or.inl h2)]; rfl
    · rw [if_neg h2, if_neg (by omega)]; rfl
  · rw [if_pos hc, if_pos hc]; rfl
theorem ix_ad {h w : Int64} {s k : Nat} (hf : ixN N w < N.1) : ixN (adN N h s k) w = ixN N w := by
  have h1 := rq_stop (fun k => !decide (N.2.1 k = w)) N.1 0 hf
  unfold ixN
  refine Nat.le_antisymm ?_ ?_
  · by_cases q : rq (fun j => !decide ((adN N h s k).2.1 j = w)) (adN N h s k).1 0 ≤ rq (fun k => !decide (N.2.1 k = w)) N.1 0
    · exact q
    · have h2 := (rq_in (fun j => !decide ((adN N h s k).2.1 j = w)) (adN N h s k).1 0 _ (Nat.zero_le _) (Nat.lt_of_not_le q)).1
      have e : (adN N h s k).2.1 (rq (fun k => !decide (N.2.1 k = w)) N.1 0) = N.2.1 (rq (fun k => !decide (N.2.1 k = w)) N.1 0) := if_neg (Nat.ne_of_lt hf)
      rw [e] at h2
      exact absurd (h2.symm.trans h1) (by decide)
  · by_cases q : rq (fun k => !decide (N.2.1 k = w)) N.1 0 ≤ rq (fun j => !decide ((adN N h s k).2.1 j = w)) (adN N h s k).1 0
    · exact q
    · have q := Nat.lt_of_not_le q
      have h2 := (rq_in (fun k => !decide (N.2.1 k = w)) N.1 0 _ (Nat.zero_le _) q)
      have h3 := rq_stop (fun j => !decide ((adN N h s k).2.1 j = w)) (adN N h s k).1 0 (show _ < N.1 + 1 from Nat.lt_succ_of_lt h2.2)
      have e : (adN N h s k).2.1 (rq (fun j => !decide ((adN N h s k).2.1 j = w)) (adN N h s k).1 0) = N.2.1 (rq (fun j => !decide ((adN N h s k).2.1 j = w)) (adN N h s k).1 0) := if_neg (Nat.ne_of_lt h2.2)
      rw [e] at h3
      exact absurd (h2.1.symm.trans h3) (by decide)
theorem fN_ad {h : Int64} {s k : Nat} (hs : s ≠ 1) : fN B n (adN N h s k) 1 p = fN B n N 1 p := by
  unfold fN
  by_cases hc : tS B n p = 1 ∧ lsN B n p = 7
  · have hcc : ¬ ¬ (tS B n p = 1 ∧ lsN B n p = 7) := fun q => q hc
    rw [if_neg hcc, if_neg hcc]
    have hle : ixN N (tH B n p) ≤ N.1 := rq_le _ _ _ (by omega)
    by_cases hf : ixN N (tH B n p) < N.1
    · rw [ix_ad hf]
      have e1 : (adN N h s k).2.2.1 (ixN N (tH B n p)) = N.2.2.1 (ixN N (tH B n p)) := if_neg (Nat.ne_of_lt hf)
      have e2 : (adN N h s k).2.2.2 (ixN N (tH B n p)) = N.2.2.2 (ixN N (tH B n p)) := if_neg (Nat.ne_of_lt hf)
      have e3 : (adN N h s k).1 = N.1 + 1 := rfl
      rw [e1, e2, e3]
      by_cases h2 : N.2.2.1 (ixN N (tH B n p)) = 1
      · rw [if_neg (by omega), if_neg (by omega)]
      · rw [if_pos (Or.inr h2), if_pos (Or.inr h2)]
    · have hr : ixN N (tH B n p) = N.1 ∨ ¬ N.2.2.1 (ixN N (tH B n p)) = 1 := Or.inl (by omega)
      rw [if_pos hr]
      refine if_pos ?_
      have hle2 : ixN (adN N h s k) (tH B n p) ≤ N.1 + 1 := rq_le _ _ _ (Nat.zero_le _)
      by_cases h3 : ixN (adN N h s k) (tH B n p) = N.1 + 1
      · exact Or.inl h3
      · right
        by_cases h4 : ixN (adN N h s k) (tH B n p) = N.1
        · rw [h4]; show ¬ (if N.1 = N.1 then s else _) = 1; rw [if_pos rfl]; exact hs
        · exfalso
          have h5 : ixN (adN N h s k) (tH B n p) < N.1 := by omega
          have h6 := rq_stop (fun j => !decide ((adN N h s k).2.1 j = tH B n p)) (adN N h s k).1 0 (show _ < N.1 + 1 by exact Nat.lt_succ_of_lt h5)
          have e : (adN N h s k).2.1 (ixN (adN N h s k) (tH B n p)) = N.2.1 (ixN (adN N h s k) (tH B n p)) := if_neg (Nat.ne_of_lt h5)
          have h6 : (!decide ((adN N h s k).2.1 (ixN (adN N h s k) (tH B n p)) = tH B n p)) = false := h6
          rw [e] at h6
          have h7 := (rq_in (fun k => !decide (N.2.1 k = tH B n p)) N.1 0 (ixN (adN N h s k) (tH B n p)) (Nat.zero_le _) (show _ < ixN N (tH B n p) by omega)).1
          exact absurd (h7.symm.trans h6) (by decide)
  · rw [if_pos hc, if_pos hc]
end M13l
/-- what follows a line -/
def hML (post : PT) (B : Nat → Nat) (n M : Nat) (mi : MI) (ml : ML) (mr : MR) (dom : List Nat) (x : ER RS) : Prop := ∀ m l, FM M mi ml m l → (∀ e, x = .inl e → MZ m l B n (.inl e)) → (∀ s, x = .inr s → MZ m l B n (.inr s.1) ∧ RM m M s.2.2 ∧ RNM m l M s.2.1) → post none m l mr dom
section M13m
variable {G : GG} {post : PT} {mi : MI} {ml : ML} {mr : MR} {dom : List Nat} {M : Nat} {t : TW} {B : Nat → Nat} {n p : Nat} {N : NS}
theorem m_readVisit (hX : XM mr) (hM : MM M) (hY : XT mr M) (hRd : mr 1000 4 = some M) (hB : RBM mi B n) (hg : GB t) (hW : WT t) (hI : NI N t) (hU : t 0 2 = 0 → t 0 3 = 0 ∧ t 0 4 = 0 ∧ t 0 5 = 0 ∧ t 0 6 = 0 ∧ t 0 7 = 0 ∧ t 0 8 = 0) (hR : RM mi M t) (hN : RNM mi ml M N) (hz : MZ mi ml B n (.inr p)) (h1 : tS B n p = 1) (hls : lsN B n p = 5) (hp : hML post B n M mi ml mr dom (liA B n (p, N, t))) : CT G 11 0 0 yX13_readVisit cX13_readVisit 4 none [.ref 1000] mi ml mr dom post := by
  have w := hW.1
  have hge := hM.ge
  have hJ := hI.nj
  have hN2 := fun k hk => (hI.2.2 k hk).2.2
  have hsum := hI.2.1
  refine enter 3 (by decide) rfl rfl (fun X => ?_)
  refine j_aload_n dX13_readVisit_0 rfl rfl ?_
  refine j_aload_n dX13_readVisit_1 rfl rfl ?_
  refine gR13_157 rfl dX13_readVisit_2 hRd ?_
  refine gI13_302 (kM0 hM) dX13_readVisit_5 ?_
  rw [hR.1 7 (by decide)]
  refine j_bipush (v := nI 8) dX13_readVisit_8 (by decide) ?_
  refine cV13_236 (d1 := 3) rfl dX13_readVisit_10 (by decide) (Nat.le_of_ble_eq_true rfl) ?_
  refine m_lineB hX hM hg hRd hB (by omega) (by decide) (hR.1 2 (by decide)) hz h1 (fun m1 l1 f1 z1 => ?_)
  have F1 := f1
  have hcs : t 0 7 = 8 ∨ (t 0 7 ≠ 8 ∧ t 0 2 = 0) ∨ (t 0 7 ≠ 8 ∧ t 0 2 ≠ 0) := by omega
  rcases hcs with q1 | ⟨q1, q2⟩ | ⟨q1, q2⟩
  · rw [if_pos q1] at z1
    have ht : 0 < t 0 2 := by rcases Nat.eq_zero_or_pos (t 0 2) with q | q; have := hU q; omega; exact q
    have HL := liA_5m (N := N) (B := B) (n := n) hls ht (by omega)
    refine j_aload_n dX13_readVisit_13 rfl rfl ?_
    refine j_iconst (v := nI 1) dX13_readVisit_14 (by decide) ?_
    refine cV13_254 (d1 := 10) rfl dX13_readVisit_15 (by decide) (Nat.le_of_ble_eq_true rfl) ?_
    refine m_readKnown (s := 3) (x := .inl (5, tA B n p)) hX hM hY hRd (hB.f F1) (hN.f hM F1) hN2 (by decide) z1 (fun v2 m2 l2 f2 z2 g2 => ?_)
    have z2 : MZ m2 l2 B n (.inl (5, tA B n p)) := z2
    have F2 := F1.tr f2
    refine j_istore_n (lv2 := [_, _, _, _]) dX13_readVisit_18 rfl (by decide) rfl rfl ?_
    refine j_aload_n dX13_readVisit_19 rfl rfl ?_
    refine j_iconst (v := nI 0) dX13_readVisit_20 (by decide) ?_
    refine cV13_254 (d1 := 10) rfl dX13_readVisit_21 (by decide) (Nat.le_of_ble_eq_true rfl) ?_
    refine m_readKnown (s := 1) (x := .inl (5, tA B n p)) hX hM hY hRd (hB.f F2) (hN.f hM F2) hN2 (by decide) z2 (fun v3 m3 l3 f3 z3 g3 => ?_)
    have z3 : MZ m3 l3 B n (.inl (5, tA B n p)) := z3
    have F3 := F2.tr f3
    refine j_istore_n (lv2 := [_, _, _, _]) dX13_readVisit_24 rfl (by decide) rfl rfl ?_
    refine j_aload_n dX13_readVisit_25 rfl rfl ?_
    refine j_ldcS13_305 dX13_readVisit_26 ?_
    refine j_iconst (v := nI 0) dX13_readVisit_29 (by decide) ?_
    refine j_bipush (v := nI 23) dX13_readVisit_30 (by decide) ?_
    refine cV13_225 (d1 := 9) rfl dX13_readVisit_32 (by decide) (Nat.le_of_ble_eq_true rfl) ?_
    refine m_readPart (i := 22) (lo := 0) (hi := 23) (x := .inl (5, tA B n p)) hX (hB.f F3) (by decide) (by decide) (by decide) z3 (fun v4 m4 l4 f4 z4 g4 => ?_)
    have z4 : MZ m4 l4 B n (.inl (5, tA B n p)) := z4
    have F4 := F3.tr f4
    refine j_istore_n (lv2 := [_, _, _, _]) dX13_readVisit_35 rfl (by decide) rfl rfl ?_
    refine j_aload_n dX13_readVisit_36 rfl rfl ?_
    refine gI13_79 rfl dX13_readVisit_37 ?_
    rw [z4.1]
    refine j_iconst (v := nI 5) dX13_readVisit_40 (by decide) ?_
    refine j_icmp_ne (tgt := 45) dX13_readVisit_41 (by decide) (fun h41 => absurd (by decide) h41) (fun h41 => ?_)
    refine j_vret rfl dX13_readVisit_44 ?_
    exact hp m4 l4 (F4.fm M) (fun e9 he9 => by rw [HL] at he9; cases he9; exact z4) (fun s9 hs9 => by rw [HL] at hs9; cases hs9)
  · rw [if_neg q1, if_pos q2] at z1
    have HL := liA_n (N := N) (B := B) (n := n) (p := p) (t := t) (by omega) (by omega) (by omega)
    refine j_aload_n dX13_readVisit_13 rfl rfl ?_
    refine j_iconst (v := nI 1) dX13_readVisit_14 (by decide) ?_
    refine cV13_254 (d1 := 10) rfl dX13_readVisit_15 (by decide) (Nat.le_of_ble_eq_true rfl) ?_
    refine m_readKnown (s := 3) (x := .inl (6, tA B n p)) hX hM hY hRd (hB.f F1) (hN.f hM F1) hN2 (by decide) z1 (fun v5 m5 l5 f5 z5 g5 => ?_)
    have z5 : MZ m5 l5 B n (.inl (6, tA B n p)) := z5
    have F5 := F1.tr f5
    refine j_istore_n (lv2 := [_, _, _, _]) dX13_readVisit_18 rfl (by decide) rfl rfl ?_
    refine j_aload_n dX13_readVisit_19 rfl rfl ?_
    refine j_iconst (v := nI 0) dX13_readVisit_20 (by decide) ?_
    refine cV13_254 (d1 := 10) rfl dX13_readVisit_21 (by decide) (Nat.le_of_ble_eq_true rfl) ?_
    refine m_readKnown (s := 1) (x := .inl (6, tA B n p)) hX hM hY hRd (hB.f F5) (hN.f hM F5) hN2 (by decide) z5 (fun v6 m6 l6 f6 z6 g6 => ?_)
    have z6 : MZ m6 l6 B n (.inl (6, tA B n p)) := z6
    have F6 := F5.tr f6
    refine j_istore_n (lv2 := [_, _, _, _]) dX13_readVisit_24 rfl (by decide) rfl rfl ?_
    refine j_aload_n dX13_readVisit_25 rfl rfl ?_
    refine j_ldcS13_305 dX13_readVisit_26 ?_
    refine j_iconst (v := nI 0) dX13_readVisit_29 (by decide) ?_
    refine j_bipush (v := nI 23) dX13_readVisit_30 (by decide) ?_
    refine cV13_225 (d1 := 9) rfl dX13_readVisit_32 (by decide) (Nat.le_of_ble_eq_true rfl) ?_
    refine m_readPart (i := 22) (lo := 0) (hi := 23) (x := .inl (6, tA B n p)) hX (hB.f F6) (by decide) (by decide) (by decide) z6 (fun v7 m7 l7 f7 z7 g7 => ?_)
    have z7 : MZ m7 l7 B n (.inl (6, tA B n p)) := z7
    have F7 := F6.tr f7
    refine j_istore_n (lv2 := [_, _, _, _]) dX13_readVisit_35 rfl (by decide) rfl rfl ?_
    refine j_aload_n dX13_readVisit_36 rfl rfl ?_
    refine gI13_79 rfl dX13_readVisit_37 ?_
    rw [z7.1]
    refine j_iconst (v := nI 5) dX13_readVisit_40 (by decide) ?_
    refine j_icmp_ne (tgt := 45) dX13_readVisit_41 (by decide) (fun h41 => absurd (by decide) h41) (fun h41 => ?_)
    refine j_vret rfl dX13_readVisit_44 ?_
    exact hp m7 l7 (F7.fm M) (fun e9 he9 => by rw [HL] at he9; cases he9; exact z7) (fun s9 hs9 => by rw [HL] at hs9; cases hs9)
  · rw [if_neg q1, if_neg q2] at z1
    have ht : 0 < t 0 2 := by omega
    have hc : t 0 7 < 8 := by omega
    refine j_aload_n dX13_readVisit_13 rfl rfl ?_
    refine j_iconst (v := nI 1) dX13_readVisit_14 (by decide) ?_
    refine cV13_254 (d1 := 10) rfl dX13_readVisit_15 (by decide) (Nat.le_of_ble_eq_true rfl) ?_
    refine m_readKnown (s := 3) (x := .inr (tE B n p)) hX hM hY hRd (hB.f F1) (hN.f hM F1) hN2 (by decide) z1 (fun v8 m8 l8 f8 z8 g8 => ?_)
    have F8 := F1.tr f8
    have z8 : MZ m8 l8 B n (es (fun _ => tE B n (tE B n p)) (fN B n N 3 (tE B n p))) := z8
    rcases s8 : fN B n N 3 (tE B n p) with e8 | q8
    · rw [s8] at z8
      have z8 : MZ m8 l8 B n (.inl e8) := z8
      have HL : liA B n (p, N, t) = .inl e8 := by rw [liA_5 hls ht hc]; simp only [liV, s8, eb_r, eb_l]
      refine j_istore_n (lv2 := [_, _, _, _]) dX13_readVisit_18 rfl (by decide) rfl rfl ?_
      refine j_aload_n dX13_readVisit_19 rfl rfl ?_
      refine j_iconst (v := nI 0) dX13_readVisit_20 (by decide) ?_
      refine cV13_254 (d1 := 10) rfl dX13_readVisit_21 (by decide) (Nat.le_of_ble_eq_true rfl) ?_
      refine m_readKnown (s := 1) (x := .inl e8) hX hM hY hRd (hB.f F8) (hN.f hM F8) hN2 (by decide) z8 (fun v9 m9 l9 f9 z9 g9 => ?_)
      have z9 : MZ m9 l9 B n (.inl e8) := z9
      have F9 := F8.tr f9
      refine j_istore_n (lv2 := [_, _, _, _]) dX13_readVisit_24 rfl (by decide) rfl rfl ?_
      refine j_aload_n dX13_readVisit_25 rfl rfl ?_
      refine j_ldcS13_305 dX13_readVisit_26 ?_
      refine j_iconst (v := nI 0) dX13_readVisit_29 (by decide) ?_
      refine j_bipush (v := nI 23) dX13_readVisit_30 (by decide) ?_
      refine cV13_225 (d1 := 9) rfl dX13_readVisit_32 (by decide) (Nat.le_of_ble_eq_true rfl) ?_
      refine m_readPart (i := 22) (lo := 0) (hi := 23) (x := .inl e8) hX (hB.f F9) (by decide) (by decide) (by decide) z9 (fun v10 m10 l10 f10 z10 g10 => ?_)
      have z10 : MZ m10 l10 B n (.inl e8) := z10
      have F10 := F9.tr f10
      refine j_istore_n (lv2 := [_, _, _, _]) dX13_readVisit_35 rfl (by decide) rfl rfl ?_
      refine j_aload_n dX13_readVisit_36 rfl rfl ?_
      refine gI13_79 rfl dX13_readVisit_37 ?_
      rw [z10.1]
      refine j_iconst (v := nI 5) dX13_readVisit_40 (by decide) ?_
      refine j_icmp_ne (tgt := 45) dX13_readVisit_41 (by decide) (fun h41 => absurd (by decide) h41) (fun h41 => ?_)
      refine j_vret rfl dX13_readVisit_44 ?_
      exact hp m10 l10 (F10.fm M) (fun e9 he9 => by rw [HL] at he9; cases he9; exact z10) (fun s9 hs9 => by rw [HL] at hs9; cases hs9)
    · rw [s8] at z8
      have z8 : MZ m8 l8 B n (.inr (tE B n (tE B n p))) := z8
      have w8 : v8 = nI q8 := g8 _ q8 rfl s8
      subst w8
      have b8 := fN_lt hJ s8
      simp only [true_implies, Nat.reduceEqDiff, false_implies, and_true, true_and] at b8
      refine j_istore_n (lv2 := [_, _, _, _]) dX13_readVisit_18 rfl (by decide) rfl rfl ?_
      refine j_aload_n dX13_readVisit_19 rfl rfl ?_
      refine j_iconst (v := nI 0) dX13_readVisit_20 (by decide) ?_
      refine cV13_254 (d1 := 10) rfl dX13_readVisit_21 (by decide) (Nat.le_of_ble_eq_true rfl) ?_
      refine m_readKnown (s := 1) (x := .inr (tE B n (tE B n p))) hX hM hY hRd (hB.f F8) (hN.f hM F8) hN2 (by decide) z8 (fun v11 m11 l11 f11 z11 g11 => ?_)
      have F11 := F8.tr f11
      have z11 : MZ m11 l11 B n (es (fun _ => tE B n (tE B n (tE B n p))) (fN B n N 1 (tE B n (tE B n p)))) := z11
      rcases s11 : fN B n N 1 (tE B n (tE B n p)) with e11 | q11
      · rw [s11] at z11
        have z11 : MZ m11 l11 B n (.inl e11) := z11
        have HL : liA B n (p, N, t) = .inl e11 := by rw [liA_5 hls ht hc]; simp only [liV, s8, s11, eb_r, eb_l]
        refine j_istore_n (lv2 := [_, _, _, _]) dX13_readVisit_24 rfl (by decide) rfl rfl ?_
        refine j_aload_n dX13_readVisit_25 rfl rfl ?_
        refine j_ldcS13_305 dX13_readVisit_26 ?_
        refine j_iconst (v := nI 0) dX13_readVisit_29 (by decide) ?_
        refine j_bipush (v := nI 23) dX13_readVisit_30 (by decide) ?_
        refine cV13_225 (d1 := 9) rfl dX13_readVisit_32 (by decide) (Nat.le_of_ble_eq_true rfl) ?_
        refine m_readPart (i := 22) (lo := 0) (hi := 23) (x := .inl e11) hX (hB.f F11) (by decide) (by decide) (by decide) z11 (fun v12 m12 l12 f12 z12 g12 => ?_)
        have z12 : MZ m12 l12 B n (.inl e11) := z12
        have F12 := F11.tr f12
        refine j_istore_n (lv2 := [_, _, _, _]) dX13_readVisit_35 rfl (by decide) rfl rfl ?_
        refine j_aload_n dX13_readVisit_36 rfl rfl ?_
        refine gI13_79 rfl dX13_readVisit_37 ?_
        rw [z12.1]
        refine j_iconst (v := nI 5) dX13_readVisit_40 (by decide) ?_
        refine j_icmp_ne (tgt := 45) dX13_readVisit_41 (by decide) (fun h41 => absurd (by decide) h41) (fun h41 => ?_)
        refine j_vret rfl dX13_readVisit_44 ?_
        exact hp m12 l12 (F12.fm M) (fun e9 he9 => by rw [HL] at he9; cases he9; exact z12) (fun s9 hs9 => by rw [HL] at hs9; cases hs9)
      · rw [s11] at z11
        have z11 : MZ m11 l11 B n (.inr (tE B n (tE B n (tE B n p)))) := z11
        have w11 : v11 = nI q11 := g11 _ q11 rfl s11
        subst w11
        have b11 := fN_lt hJ s11
        simp only [true_implies, Nat.reduceEqDiff, false_implies, and_true, true_and] at b11
        refine j_istore_n (lv2 := [_, _, _, _]) dX13_readVisit_24 rfl (by decide) rfl rfl ?_
        refine j_aload_n dX13_readVisit_25 rfl rfl ?_
        refine j_ldcS13_305 dX13_readVisit_26 ?_
        refine j_iconst (v := nI 0) dX13_readVisit_29 (by decide) ?_
        refine j_bipush (v := nI 23) dX13_readVisit_30 (by decide) ?_
        refine cV13_225 (d1 := 9) rfl dX13_readVisit_32 (by decide) (Nat.le_of_ble_eq_true rfl) ?_
        refine m_readPart (i := 22) (lo := 0) (hi := 23) (x := .inr (tE B n (tE B n (tE B n p)))) hX (hB.f F11) (by decide) (by decide) (by decide) z11 (fun v13 m13 l13 f13 z13 g13 => ?_)
        have F13 := F11.tr f13
        have z13 : MZ m13 l13 B n (es Prod.fst (eb (pW B n 22 (tE B n (tE B n (tE B n p)))) (pN B n 0 23))) := z13
        have g13 : ∀ q, eb (pW B n 22 (tE B n (tE B n (tE B n p)))) (pN B n 0 23) = .inr q → v13 = nI q.2 := g13
        have hst : (∃ e, pW B n 22 (tE B n (tE B n (tE B n p))) = .inl e) ∨ (∃ r e, pW B n 22 (tE B n (tE B n (tE B n p))) = .inr r ∧ pN B n 0 23 r = .inl e) ∨ ∃ r q, pW B n 22 (tE B n (tE B n (tE B n p))) = .inr r ∧ pN B n 0 23 r = .inr q := by
          cases s0 : pW B n 22 (tE B n (tE B n (tE B n p))) with
          | inl e => exact Or.inl ⟨e, rfl⟩
          | inr r =>
            cases u0 : pN B n 0 23 r with
            | inl e => exact Or.inr (Or.inl ⟨r, e, rfl, u0⟩)
            | inr q => exact Or.inr (Or.inr ⟨r, q, rfl, u0⟩)
        rcases hst with ⟨e13, s13⟩ | ⟨r13, e13, s13, u13⟩ | ⟨r13, q13, s13, u13⟩
        · rw [s13] at z13
          have z13 : MZ m13 l13 B n (.inl e13) := z13
          have HL : liA B n (p, N, t) = .inl e13 := by rw [liA_5 hls ht hc]; simp only [liV, s8, s11, s13, eb_r, eb_l]
          refine j_istore_n (lv2 := [_, _, _, _]) dX13_readVisit_35 rfl (by decide) rfl rfl ?_
          refine j_aload_n dX13_readVisit_36 rfl rfl ?_
          refine gI13_79 rfl dX13_readVisit_37 ?_
          rw [z13.1]
          refine j_iconst (v := nI 5) dX13_readVisit_40 (by decide) ?_
          refine j_icmp_ne (tgt := 45) dX13_readVisit_41 (by decide) (fun h41 => absurd (by decide) h41) (fun h41 => ?_)
          refine j_vret rfl dX13_readVisit_44 ?_
          exact hp m13 l13 (F13.fm M) (fun e9 he9 => by rw [HL] at he9; cases he9; exact z13) (fun s9 hs9 => by rw [HL] at hs9; cases hs9)
        · rw [s13, eb_r, u13] at z13
          have z13 : MZ m13 l13 B n (.inl e13) := z13
          have HL : liA B n (p, N, t) = .inl e13 := by rw [liA_5 hls ht hc]; simp only [liV, s8, s11, s13, u13, eb_r, eb_l]
          refine j_istore_n (lv2 := [_, _, _, _]) dX13_readVisit_35 rfl (by decide) rfl rfl ?_
          refine j_aload_n dX13_readVisit_36 rfl rfl ?_
          refine gI13_79 rfl dX13_readVisit_37 ?_
          rw [z13.1]
          refine j_iconst (v := nI 5) dX13_readVisit_40 (by decide) ?_
          refine j_icmp_ne (tgt := 45) dX13_readVisit_41 (by decide) (fun h41 => absurd (by decide) h41) (fun h41 => ?_)
          refine j_vret rfl dX13_readVisit_44 ?_
          exact hp m13 l13 (F13.fm M) (fun e9 he9 => by rw [HL] at he9; cases he9; exact z13) (fun s9 hs9 => by rw [HL] at hs9; cases hs9)
        · rw [s13, eb_r, u13] at z13
          have z13 : MZ m13 l13 B n (.inr q13.1) := z13
          have w13 : v13 = nI q13.2 := g13 q13 (by rw [s13, eb_r, u13])
          subst w13
          have b13 := pN_r u13
          refine j_istore_n (lv2 := [_, _, _, _]) dX13_readVisit_35 rfl (by decide) rfl rfl ?_
          refine j_aload_n dX13_readVisit_36 rfl rfl ?_
          refine gI13_79 rfl dX13_readVisit_37 ?_
          rw [z13.2.1.2.1]
          refine j_iconst (v := nI 5) dX13_readVisit_40 (by decide) ?_
          refine j_icmp_ne (tgt := 45) dX13_readVisit_41 (by decide) (fun h41 => ?_) (fun h41 => by exfalso; have h6 := sM_le (tS_le B n (q13.1)); rw [nI_eq (by omega) (by decide)] at h41; omega)
          refine j_aload_n dX13_readVisit_45 rfl rfl ?_
          refine gR13_157 rfl dX13_readVisit_46 hRd ?_
          refine gR13_307 (kM0 hM) dX13_readVisit_49 (xM11 hY) ?_
          refine j_aload_n dX13_readVisit_52 rfl rfl ?_
          refine gR13_157 rfl dX13_readVisit_53 hRd ?_
          refine gI13_302 (kM0 hM) dX13_readVisit_56 ?_
          rw [show m13 M 7 = nI (t 0 7) from (hR.f hM F13).1 7 (by decide)]
          refine j_iload_n dX13_readVisit_59 rfl rfl ?_
          refine j_iast (kM11 hM) (inT (lM11 hM) (by have := hg 0 7; show t 0 7 < 8; omega) (by decide)) dX13_readVisit_60 ?_
          rw [nI_clamp (by have := hg 0 7; omega)]
          have FF14 := (F13.fm M).pu hM (a := M + 11) (j := t 0 7) (by omega) (nI (q8))
          have zz14 := z13.pu (a := M + 11) (j := t 0 7) (by omega) (nI (q8))
          have rr14 := (hR.f hM F13).put (r := 11) (i := t 0 7) (x := q8) (by decide) (by decide)
          have nn14 := (hN.f hM F13).pu (r := 11) (i := t 0 7) (by decide) (fun q => absurd q (by decide)) (nI (q8))
          generalize up m13 (M + 11) (t 0 7) (nI (q8)) = y14 at FF14 zz14 rr14 nn14 ⊢
          refine j_aload_n dX13_readVisit_61 rfl rfl ?_
          refine gR13_157 rfl dX13_readVisit_62 hRd ?_
          refine gR13_310 (kM0 hM) dX13_readVisit_65 (xM12 hY) ?_
          refine j_aload_n dX13_readVisit_68 rfl rfl ?_
          refine gR13_157 rfl dX13_readVisit_69 hRd ?_
          refine gI13_302 (kM0 hM) dX13_readVisit_72 ?_
          rw [show y14 M 7 = nI (t 0 7) from rr14.1 7 (by decide)]
          refine j_iload_n dX13_readVisit_75 rfl rfl ?_
          refine j_iast (kM12 hM) (inT (lM12 hM) (by have := hg 0 7; show t 0 7 < 8; omega) (by decide)) dX13_readVisit_76 ?_
          rw [nI_clamp (by have := hg 0 7; omega)]
          have FF15 := FF14.pu hM (a := M + 12) (j := t 0 7) (by omega) (nI (q11))
          have zz15 := zz14.pu (a := M + 12) (j := t 0 7) (by omega) (nI (q11))
          have rr15 := rr14.put (r := 12) (i := t 0 7) (x := q11) (by decide) (by decide)
          have nn15 := nn14.pu (r := 12) (i := t 0 7) (by decide) (fun q => absurd q (by decide)) (nI (q11))
          generalize up y14 (M + 12) (t 0 7) (nI (q11)) = y15 at FF15 zz15 rr15 nn15 ⊢
          refine j_aload_n dX13_readVisit_77 rfl rfl ?_
          refine gR13_157 rfl dX13_readVisit_78 hRd ?_
          refine gR13_313 (kM0 hM) dX13_readVisit_81 (xM13 hY) ?_
          refine j_aload_n dX13_readVisit_84 rfl rfl ?_
          refine gR13_157 rfl dX13_readVisit_85 hRd ?_
          refine gI13_302 (kM0 hM) dX13_readVisit_88 ?_
          rw [show y15 M 7 = nI (t 0 7) from rr15.1 7 (by decide)]
          refine j_iload_n dX13_readVisit_91 rfl rfl ?_
          refine j_iast (kM13 hM) (inT (lM13 hM) (by have := hg 0 7; show t 0 7 < 8; omega) (by decide)) dX13_readVisit_92 ?_
          rw [nI_clamp (by have := hg 0 7; omega)]
          have FF16 := FF15.pu hM (a := M + 13) (j := t 0 7) (by omega) (nI (q13.2))
          have zz16 := zz15.pu (a := M + 13) (j := t 0 7) (by omega) (nI (q13.2))
          have rr16 := rr15.put (r := 13) (i := t 0 7) (x := q13.2) (by decide) (by decide)
          have nn16 := nn15.pu (r := 13) (i := t 0 7) (by decide) (fun q => absurd q (by decide)) (nI (q13.2))
          generalize up y15 (M + 13) (t 0 7) (nI (q13.2)) = y16 at FF16 zz16 rr16 nn16 ⊢
          refine j_aload_n dX13_readVisit_93 rfl rfl ?_
          refine gR13_157 rfl dX13_readVisit_94 hRd ?_
          refine j_dup dX13_readVisit_97 rfl ?_
          refine gI13_302 (kM0 hM) dX13_readVisit_98 ?_
          rw [show y16 M 7 = nI (t 0 7) from rr16.1 7 (by decide)]
          refine j_iconst (v := nI 1) dX13_readVisit_101 (by decide) ?_
          refine j_iadd dX13_readVisit_102 ?_
          rw [nI_add]
          refine pI13_302 (kM0 hM) dX13_readVisit_103 ?_
          have FF17 := FF16.pu hM (a := M) (j := 7) (by omega) (nI ((t 0 7) + 1))
          have zz17 := zz16.pu (a := M) (j := 7) (by omega) (nI ((t 0 7) + 1))
          have rr17 := rr16.put0 (i := 7) (x := (t 0 7) + 1)
          have nn17 := nn16.pu (r := 0) (i := 7) (by decide) (fun _ => by decide) (nI ((t 0 7) + 1))
          rw [Nat.add_zero] at nn17
          generalize up y16 (M) (7) (nI ((t 0 7) + 1)) = y17 at FF17 zz17 rr17 nn17 ⊢
          refine j_vret rfl dX13_readVisit_106 ?_
          have HL : liA B n (p, N, t) = .inr (q13.1, N, ut (ut (ut (ut t 11 (t 0 7) q8) 12 (t 0 7) q11) 13 (t 0 7) q13.2) 0 7 (t 0 7 + 1)) := by rw [liA_5 hls ht hc]; simp only [liV, s8, s11, s13, u13, eb_r, eb_l]
          refine hp y17 l13 FF17 (fun e9 he9 => by rw [HL] at he9; cases he9) (fun s9 hs9 => ?_)
          rw [HL] at hs9
          cases hs9
          exact ⟨zz17, rr17, nn17⟩
theorem m_readPrint (hX : XM mr) (hM : MM M) (hY : XT mr M) (hRd : mr 1000 4 = some M) (hB : RBM mi B n) (hg : GB t) (hW : WT t) (hI : NI N t) (hU : t 0 2 = 0 → t 0 3 = 0 ∧ t 0 4 = 0 ∧ t 0 5 = 0 ∧ t 0 6 = 0 ∧ t 0 7 = 0 ∧ t 0 8 = 0) (hR : RM mi M t) (hN : RNM mi ml M N) (hz : MZ mi ml B n (.inr p)) (h1 : tS B n p = 1) (hls : lsN B n p = 6) (hp : hML post B n M mi ml mr dom (liA B n (p, N, t))) : CT G 11 0 0 yX13_readPrint cX13_readPrint 4 none [.ref 1000] mi ml mr dom post := by
  have w := hW.1
  have hge := hM.ge
  have hJ := hI.nj
  have hN2 := fun k hk => (hI.2.2 k hk).2.2
  have hsum := hI.2.1
  refine enter 3 (by decide) rfl rfl (fun X => ?_)
  refine j_aload_n dX13_readPrint_0 rfl rfl ?_
  refine j_aload_n dX13_readPrint_1 rfl rfl ?_
  refine gR13_157 rfl dX13_readPrint_2 hRd ?_
  refine gI13_316 (kM0 hM) dX13_readPrint_5 ?_
  rw [hR.1 8 (by decide)]
  refine j_iconst (v := nI 5) dX13_readPrint_8 (by decide) ?_
  refine cV13_236 (d1 := 3) rfl dX13_readPrint_9 (by decide) (Nat.le_of_ble_eq_true rfl) ?_
  refine m_lineB hX hM hg hRd hB (by omega) (by decide) (hR.1 2 (by decide)) hz h1 (fun m1 l1 f1 z1 => ?_)
  have F1 := f1
  have hcs : t 0 8 = 5 ∨ (t 0 8 ≠ 5 ∧ t 0 2 = 0) ∨ (t 0 8 ≠ 5 ∧ t 0 2 ≠ 0) := by omega
  rcases hcs with q1 | ⟨q1, q2⟩ | ⟨q1, q2⟩
  · rw [if_pos q1] at z1
    have ht : 0 < t 0 2 := by rcases Nat.eq_zero_or_pos (t 0 2) with q | q; have := hU q; omega; exact q
    have HL := liA_6m (N := N) (B := B) (n := n) hls ht (by omega)
    refine j_aload_n dX13_readPrint_12 rfl rfl ?_
    refine j_iconst (v := nI 0) dX13_readPrint_13 (by decide) ?_
    refine cV13_254 (d1 := 10) rfl dX13_readPrint_14 (by decide) (Nat.le_of_ble_eq_true rfl) ?_
    refine m_readKnown (s := 1) (x := .inl (5, tA B n p)) hX hM hY hRd (hB.f F1) (hN.f hM F1) hN2 (by decide) z1 (fun v2 m2 l2 f2 z2 g2 => ?_)
    have z2 : MZ m2 l2 B n (.inl (5, tA B n p)) := z2
    have F2 := F1.tr f2
    refine j_istore_n (lv2 := [_, _, _, _]) dX13_readPrint_17 rfl (by decide) rfl rfl ?_
    refine j_aload_n dX13_readPrint_18 rfl rfl ?_
    refine j_iconst (v := nI 2) dX13_readPrint_19 (by decide) ?_
    refine cV13_273 (d1 := 3) rfl dX13_readPrint_20 (by decide) (Nat.le_of_ble_eq_true rfl) ?_
    refine m_readLook2 (x := .inl (5, tA B n p)) hX (hB.f F2) z2 (fun v3 m3 l3 f3 z3 g3 => ?_)
    have z3 : MZ m3 l3 B n (.inl (5, tA B n p)) := z3
    have F3 := F2.tr f3
    refine j_istore_n (lv2 := [_, _, _, _]) dX13_readPrint_23 rfl (by decide) rfl rfl ?_
    refine j_aload_n dX13_readPrint_24 rfl rfl ?_
    refine j_ldcS13_319 dX13_readPrint_25 ?_
    refine j_iconst (v := nI 0) dX13_readPrint_28 (by decide) ?_
    refine j_bipush (v := nI 20) dX13_readPrint_29 (by decide) ?_
    refine cV13_225 (d1 := 9) rfl dX13_readPrint_31 (by decide) (Nat.le_of_ble_eq_true rfl) ?_
    refine m_readPart (i := 23) (lo := 0) (hi := 20) (x := .inl (5, tA B n p)) hX (hB.f F3) (by decide) (by decide) (by decide) z3 (fun v4 m4 l4 f4 z4 g4 => ?_)
    have z4 : MZ m4 l4 B n (.inl (5, tA B n p)) := z4
    have F4 := F3.tr f4
    refine j_istore_n (lv2 := [_, _, _, _]) dX13_readPrint_34 rfl (by decide) rfl rfl ?_
    refine j_aload_n dX13_readPrint_35 rfl rfl ?_
    refine gI13_79 rfl dX13_readPrint_36 ?_
    rw [z4.1]
    refine j_iconst (v := nI 5) dX13_readPrint_39 (by decide) ?_
    refine j_icmp_ne (tgt := 44) dX13_readPrint_40 (by decide) (fun h40 => absurd (by decide) h40) (fun h40 => ?_)
    refine j_vret rfl dX13_readPrint_43 ?_
    exact hp m4 l4 (F4.fm M) (fun e9 he9 => by rw [HL] at he9; cases he9; exact z4) (fun s9 hs9 => by rw [HL] at hs9; cases hs9)
  · rw [if_neg q1, if_pos q2] at z1
    have HL := liA_n (N := N) (B := B) (n := n) (p := p) (t := t) (by omega) (by omega) (by omega)
    refine j_aload_n dX13_readPrint_12 rfl rfl ?_
    refine j_iconst (v := nI 0) dX13_readPrint_13 (by decide) ?_
    refine cV13_254 (d1 := 10) rfl dX13_readPrint_14 (by decide) (Nat.le_of_ble_eq_true rfl) ?_
    refine m_readKnown (s := 1) (x := .inl (6, tA B n p)) hX hM hY hRd (hB.f F1) (hN.f hM F1) hN2 (by decide) z1 (fun v5 m5 l5 f5 z5 g5 => ?_)
    have z5 : MZ m5 l5 B n (.inl (6, tA B n p)) := z5
    have F5 := F1.tr f5
    refine j_istore_n (lv2 := [_, _, _, _]) dX13_readPrint_17 rfl (by decide) rfl rfl ?_
    refine j_aload_n dX13_readPrint_18 rfl rfl ?_
    refine j_iconst (v := nI 2) dX13_readPrint_19 (by decide) ?_
    refine cV13_273 (d1 := 3) rfl dX13_readPrint_20 (by decide) (Nat.le_of_ble_eq_true rfl) ?_
    refine m_readLook2 (x := .inl (6, tA B n p)) hX (hB.f F5) z5 (fun v6 m6 l6 f6 z6 g6 => ?_)
    have z6 : MZ m6 l6 B n (.inl (6, tA B n p)) := z6
    have F6 := F5.tr f6
    refine j_istore_n (lv2 := [_, _, _, _]) dX13_readPrint_23 rfl (by decide) rfl rfl ?_
    refine j_aload_n dX13_readPrint_24 rfl rfl ?_
    refine j_ldcS13_319 dX13_readPrint_25 ?_
    refine j_iconst (v := nI 0) dX13_readPrint_28 (by decide) ?_
    refine j_bipush (v := nI 20) dX13_readPrint_29 (by decide) ?_
    refine cV13_225 (d1 := 9) rfl dX13_readPrint_31 (by decide) (Nat.le_of_ble_eq_true rfl) ?_
    refine m_readPart (i := 23) (lo := 0) (hi := 20) (x := .inl (6, tA B n p)) hX (hB.f F6) (by decide) (by decide) (by decide) z6 (fun v7 m7 l7 f7 z7 g7 => ?_)
    have z7 : MZ m7 l7 B n (.inl (6, tA B n p)) := z7
    have F7 := F6.tr f7
    refine j_istore_n (lv2 := [_, _, _, _]) dX13_readPrint_34 rfl (by decide) rfl rfl ?_
    refine j_aload_n dX13_readPrint_35 rfl rfl ?_
    refine gI13_79 rfl dX13_readPrint_36 ?_
    rw [z7.1]
    refine j_iconst (v := nI 5) dX13_readPrint_39 (by decide) ?_
    refine j_icmp_ne (tgt := 44) dX13_readPrint_40 (by decide) (fun h40 => absurd (by decide) h40) (fun h40 => ?_)
    refine j_vret rfl dX13_readPrint_43 ?_
    exact hp m7 l7 (F7.fm M) (fun e9 he9 => by rw [HL] at he9; cases he9; exact z7) (fun s9 hs9 => by rw [HL] at hs9; cases hs9)
  · rw [if_neg q1, if_neg q2] at z1
    have ht : 0 < t 0 2 := by omega
    have hc : t 0 8 < 5 := by omega
    refine j_aload_n dX13_readPrint_12 rfl rfl ?_
    refine j_iconst (v := nI 0) dX13_readPrint_13 (by decide) ?_
    refine cV13_254 (d1 := 10) rfl dX13_readPrint_14 (by decide) (Nat.le_of_ble_eq_true rfl) ?_
    refine m_readKnown (s := 1) (x := .inr (tE B n p)) hX hM hY hRd (hB.f F1) (hN.f hM F1) hN2 (by decide) z1 (fun v8 m8 l8 f8 z8 g8 => ?_)
    have F8 := F1.tr f8
    have z8 : MZ m8 l8 B n (es (fun _ => tE B n (tE B n p)) (fN B n N 1 (tE B n p))) := z8
    rcases s8 : fN B n N 1 (tE B n p) with e8 | q8
    · rw [s8] at z8
      have z8 : MZ m8 l8 B n (.inl e8) := z8
      have HL : liA B n (p, N, t) = .inl e8 := by rw [liA_6 hls ht hc]; simp only [liK, s8, eb_r, eb_l]
      refine j_istore_n (lv2 := [_, _, _, _]) dX13_readPrint_17 rfl (by decide) rfl rfl ?_
      refine j_aload_n dX13_readPrint_18 rfl rfl ?_
      refine j_iconst (v := nI 2) dX13_readPrint_19 (by decide) ?_
      refine cV13_273 (d1 := 3) rfl dX13_readPrint_20 (by decide) (Nat.le_of_ble_eq_true rfl) ?_
      refine m_readLook2 (x := .inl e8) hX (hB.f F8) z8 (fun v9 m9 l9 f9 z9 g9 => ?_)
      have z9 : MZ m9 l9 B n (.inl e8) := z9
      have F9 := F8.tr f9
      refine j_istore_n (lv2 := [_, _, _, _]) dX13_readPrint_23 rfl (by decide) rfl rfl ?_
      refine j_aload_n dX13_readPrint_24 rfl rfl ?_
      refine j_ldcS13_319 dX13_readPrint_25 ?_
      refine j_iconst (v := nI 0) dX13_readPrint_28 (by decide) ?_
      refine j_bipush (v := nI 20) dX13_readPrint_29 (by decide) ?_
      refine cV13_225 (d1 := 9) rfl dX13_readPrint_31 (by decide) (Nat.le_of_ble_eq_true rfl) ?_
      refine m_readPart (i := 23) (lo := 0) (hi := 20) (x := .inl e8) hX (hB.f F9) (by decide) (by decide) (by decide) z9 (fun v10 m10 l10 f10 z10 g10 => ?_)
      have z10 : MZ m10 l10 B n (.inl e8) := z10
      have F10 := F9.tr f10
      refine j_istore_n (lv2 := [_, _, _, _]) dX13_readPrint_34 rfl (by decide) rfl rfl ?_
      refine j_aload_n dX13_readPrint_35 rfl rfl ?_
      refine gI13_79 rfl dX13_readPrint_36 ?_
      rw [z10.1]
      refine j_iconst (v := nI 5) dX13_readPrint_39 (by decide) ?_
      refine j_icmp_ne (tgt := 44) dX13_readPrint_40 (by decide) (fun h40 => absurd (by decide) h40) (fun h40 => ?_)
      refine j_vret rfl dX13_readPrint_43 ?_
      exact hp m10 l10 (F10.fm M) (fun e9 he9 => by rw [HL] at he9; cases he9; exact z10) (fun s9 hs9 => by rw [HL] at hs9; cases hs9)
    · rw [s8] at z8
      have z8 : MZ m8 l8 B n (.inr (tE B n (tE B n p))) := z8
      have w8 : v8 = nI q8 := g8 _ q8 rfl s8
      subst w8
      have b8 := fN_lt hJ s8
      simp only [true_implies, Nat.reduceEqDiff, false_implies, and_true, true_and] at b8
      refine j_istore_n (lv2 := [_, _, _, _]) dX13_readPrint_17 rfl (by decide) rfl rfl ?_
      refine j_aload_n dX13_readPrint_18 rfl rfl ?_
      refine j_iconst (v := nI 2) dX13_readPrint_19 (by decide) ?_
      refine cV13_273 (d1 := 3) rfl dX13_readPrint_20 (by decide) (Nat.le_of_ble_eq_true rfl) ?_
      refine m_readLook2 (x := .inr (tE B n (tE B n p))) hX (hB.f F8) z8 (fun v11 m11 l11 f11 z11 g11 => ?_)
      have F11 := F8.tr f11
      have z11 : MZ m11 l11 B n (es Prod.fst (pL B n 2 (tE B n (tE B n p)))) := z11
      rcases s11 : pL B n 2 (tE B n (tE B n p)) with e11 | q11
      · rw [s11] at z11
        have z11 : MZ m11 l11 B n (.inl e11) := z11
        have HL : liA B n (p, N, t) = .inl e11 := by rw [liA_6 hls ht hc]; simp only [liK, s8, s11, eb_r, eb_l]
        refine j_istore_n (lv2 := [_, _, _, _]) dX13_readPrint_23 rfl (by decide) rfl rfl ?_
        refine j_aload_n dX13_readPrint_24 rfl rfl ?_
        refine j_ldcS13_319 dX13_readPrint_25 ?_
        refine j_iconst (v := nI 0) dX13_readPrint_28 (by decide) ?_
        refine j_bipush (v := nI 20) dX13_readPrint_29 (by decide) ?_
        refine cV13_225 (d1 := 9) rfl dX13_readPrint_31 (by decide) (Nat.le_of_ble_eq_true rfl) ?_
        refine m_readPart (i := 23) (lo := 0) (hi := 20) (x := .inl e11) hX (hB.f F11) (by decide) (by decide) (by decide) z11 (fun v12 m12 l12 f12 z12 g12 => ?_)
        have z12 : MZ m12 l12 B n (.inl e11) := z12
        have F12 := F11.tr f12
        refine j_istore_n (lv2 := [_, _, _, _]) dX13_readPrint_34 rfl (by decide) rfl rfl ?_
        refine j_aload_n dX13_readPrint_35 rfl rfl ?_
        refine gI13_79 rfl dX13_readPrint_36 ?_
        rw [z12.1]
        refine j_iconst (v := nI 5) dX13_readPrint_39 (by decide) ?_
        refine j_icmp_ne (tgt := 44) dX13_readPrint_40 (by decide) (fun h40 => absurd (by decide) h40) (fun h40 => ?_)
        refine j_vret rfl dX13_readPrint_43 ?_
        exact hp m12 l12 (F12.fm M) (fun e9 he9 => by rw [HL] at he9; cases he9; exact z12) (fun s9 hs9 => by rw [HL] at hs9; cases hs9)
      · rw [s11] at z11
        have z11 : MZ m11 l11 B n (.inr q11.1) := z11
        have w11 : v11 = nI q11.2 := g11 q11 s11
        subst w11
        have b11 := pL_r s11
        refine j_istore_n (lv2 := [_, _, _, _]) dX13_readPrint_23 rfl (by decide) rfl rfl ?_
        refine j_aload_n dX13_readPrint_24 rfl rfl ?_
        refine j_ldcS13_319 dX13_readPrint_25 ?_
        refine j_iconst (v := nI 0) dX13_readPrint_28 (by decide) ?_
        refine j_bipush (v := nI 20) dX13_readPrint_29 (by decide) ?_
        refine cV13_225 (d1 := 9) rfl dX13_readPrint_31 (by decide) (Nat.le_of_ble_eq_true rfl) ?_
        refine m_readPart (i := 23) (lo := 0) (hi := 20) (x := .inr q11.1) hX (hB.f F11) (by decide) (by decide) (by decide) z11 (fun v13 m13 l13 f13 z13 g13 => ?_)
        have F13 := F11.tr f13
        have z13 : MZ m13 l13 B n (es Prod.fst (eb (pW B n 23 (q11.1)) (pN B n 0 20))) := z13
        have g13 : ∀ q, eb (pW B n 23 (q11.1)) (pN B n 0 20) = .inr q → v13 = nI q.2 := g13
        have hst : (∃ e, pW B n 23 (q11.1) = .inl e) ∨ (∃ r e, pW B n 23 (q11.1) = .inr r ∧ pN B n 0 20 r = .inl e) ∨ ∃ r q, pW B n 23 (q11.1) = .inr r ∧ pN B n 0 20 r = .inr q := by
          cases s0 : pW B n 23 (q11.1) with
          | inl e => exact Or.inl ⟨e, rfl⟩
          | inr r =>
            cases u0 : pN B n 0 20 r with
            | inl e => exact Or.inr (Or.inl ⟨r, e, rfl, u0⟩)
            | inr q => exact Or.inr (Or.inr ⟨r, q, rfl, u0⟩)
        rcases hst with ⟨e13, s13⟩ | ⟨r13, e13, s13, u13⟩ | ⟨r13, q13, s13, u13⟩
        · rw [s13] at z13
          have z13 : MZ m13 l13 B n (.inl e13) := z13
          have HL : liA B n (p, N, t) = .inl e13 := by rw [liA_6 hls ht hc]; simp only [liK, s8, s11, s13, eb_r, eb_l]
          refine j_istore_n (lv2 := [_, _, _, _]) dX13_readPrint_34 rfl (by decide) rfl rfl ?_
          refine j_aload_n dX13_readPrint_35 rfl rfl ?_
          refine gI13_79 rfl dX13_readPrint_36 ?_
          rw [z13.1]
          refine j_iconst (v := nI 5) dX13_readPrint_39 (by decide) ?_
          refine j_icmp_ne (tgt := 44) dX13_readPrint_40 (by decide) (fun h40 => absurd (by decide) h40) (fun h40 => ?_)
          refine j_vret rfl dX13_readPrint_43 ?_
          exact hp m13 l13 (F13.fm M) (fun e9 he9 => by rw [HL] at he9; cases he9; exact z13) (fun s9 hs9 => by rw [HL] at hs9; cases hs9)
        · rw [s13, eb_r, u13] at z13
          have z13 : MZ m13 l13 B n (.inl e13) := z13
          have HL : liA B n (p, N, t) = .inl e13 := by rw [liA_6 hls ht hc]; simp only [liK, s8, s11, s13, u13, eb_r, eb_l]
          refine j_istore_n (lv2 := [_, _, _, _]) dX13_readPrint_34 rfl (by decide) rfl rfl ?_
          refine j_aload_n dX13_readPrint_35 rfl rfl ?_
          refine gI13_79 rfl dX13_readPrint_36 ?_
          rw [z13.1]
          refine j_iconst (v := nI 5) dX13_readPrint_39 (by decide) ?_
          refine j_icmp_ne (tgt := 44) dX13_readPrint_40 (by decide) (fun h40 => absurd (by decide) h40) (fun h40 => ?_)
          refine j_vret rfl dX13_readPrint_43 ?_
          exact hp m13 l13 (F13.fm M) (fun e9 he9 => by rw [HL] at he9; cases he9; exact z13) (fun s9 hs9 => by rw [HL] at hs9; cases hs9)
        · rw [s13, eb_r, u13] at z13
          have z13 : MZ m13 l13 B n (.inr q13.1) := z13
          have w13 : v13 = nI q13.2 := g13 q13 (by rw [s13, eb_r, u13])
          subst w13
          have b13 := pN_r u13
          refine j_istore_n (lv2 := [_, _, _, _]) dX13_readPrint_34 rfl (by decide) rfl rfl ?_
          refine j_aload_n dX13_readPrint_35 rfl rfl ?_
          refine gI13_79 rfl dX13_readPrint_36 ?_
          rw [z13.2.1.2.1]
          refine j_iconst (v := nI 5) dX13_readPrint_39 (by decide) ?_
          refine j_icmp_ne (tgt := 44) dX13_readPrint_40 (by decide) (fun h40 => ?_) (fun h40 => by exfalso; have h6 := sM_le (tS_le B n (q13.1)); rw [nI_eq (by omega) (by decide)] at h40; omega)
          refine j_aload_n dX13_readPrint_44 rfl rfl ?_
          refine gR13_157 rfl dX13_readPrint_45 hRd ?_
          refine gR13_321 (kM0 hM) dX13_readPrint_48 (xM14 hY) ?_
          refine j_aload_n dX13_readPrint_51 rfl rfl ?_
          refine gR13_157 rfl dX13_readPrint_52 hRd ?_
          refine gI13_316 (kM0 hM) dX13_readPrint_55 ?_
          rw [show m13 M 8 = nI (t 0 8) from (hR.f hM F13).1 8 (by decide)]
          refine j_iload_n dX13_readPrint_58 rfl rfl ?_
          refine j_iast (kM14 hM) (inT (lM14 hM) (by have := hg 0 8; show t 0 8 < 5; omega) (by decide)) dX13_readPrint_59 ?_
          rw [nI_clamp (by have := hg 0 8; omega)]
          have FF14 := (F13.fm M).pu hM (a := M + 14) (j := t 0 8) (by omega) (nI (q8))
          have zz14 := z13.pu (a := M + 14) (j := t 0 8) (by omega) (nI (q8))
          have rr14 := (hR.f hM F13).put (r := 14) (i := t 0 8) (x := q8) (by decide) (by decide)
          have nn14 := (hN.f hM F13).pu (r := 14) (i := t 0 8) (by decide) (fun q => absurd q (by decide)) (nI (q8))
          generalize up m13 (M + 14) (t 0 8) (nI (q8)) = y14 at FF14 zz14 rr14 nn14 ⊢
          refine j_aload_n dX13_readPrint_60 rfl rfl ?_
          refine gR13_157 rfl dX13_readPrint_61 hRd ?_
          refine gR13_324 (kM0 hM) dX13_readPrint_64 (xM15 hY) ?_
          refine j_aload_n dX13_readPrint_67 rfl rfl ?_
          refine gR13_157 rfl dX13_readPrint_68 hRd ?_
          refine gI13_316 (kM0 hM) dX13_readPrint_71 ?_
          rw [show y14 M 8 = nI (t 0 8) from rr14.1 8 (by decide)]
          refine j_iload_n dX13_readPrint_74 rfl rfl ?_
          refine j_iast (kM15 hM) (inT (lM15 hM) (by have := hg 0 8; show t 0 8 < 5; omega) (by decide)) dX13_readPrint_75 ?_
          rw [nI_clamp (by have := hg 0 8; omega)]
          have FF15 := FF14.pu hM (a := M + 15) (j := t 0 8) (by omega) (nI (q11.2))
          have zz15 := zz14.pu (a := M + 15) (j := t 0 8) (by omega) (nI (q11.2))
          have rr15 := rr14.put (r := 15) (i := t 0 8) (x := q11.2) (by decide) (by decide)
          have nn15 := nn14.pu (r := 15) (i := t 0 8) (by decide) (fun q => absurd q (by decide)) (nI (q11.2))
          generalize up y14 (M + 15) (t 0 8) (nI (q11.2)) = y15 at FF15 zz15 rr15 nn15 ⊢
          refine j_aload_n dX13_readPrint_76 rfl rfl ?_
          refine gR13_157 rfl dX13_readPrint_77 hRd ?_
          refine gR13_326 (kM0 hM) dX13_readPrint_80 (xM16 hY) ?_
          refine j_aload_n dX13_readPrint_83 rfl rfl ?_
          refine gR13_157 rfl dX13_readPrint_84 hRd ?_
          refine gI13_316 (kM0 hM) dX13_readPrint_87 ?_
          rw [show y15 M 8 = nI (t 0 8) from rr15.1 8 (by decide)]
          refine j_iload_n dX13_readPrint_90 rfl rfl ?_
          refine j_iast (kM16 hM) (inT (lM16 hM) (by have := hg 0 8; show t 0 8 < 5; omega) (by decide)) dX13_readPrint_91 ?_
          rw [nI_clamp (by have := hg 0 8; omega)]
          have FF16 := FF15.pu hM (a := M + 16) (j := t 0 8) (by omega) (nI (q13.2))
          have zz16 := zz15.pu (a := M + 16) (j := t 0 8) (by omega) (nI (q13.2))
          have rr16 := rr15.put (r := 16) (i := t 0 8) (x := q13.2) (by decide) (by decide)
          have nn16 := nn15.pu (r := 16) (i := t 0 8) (by decide) (fun q => absurd q (by decide)) (nI (q13.2))
          generalize up y15 (M + 16) (t 0 8) (nI (q13.2)) = y16 at FF16 zz16 rr16 nn16 ⊢
          refine j_aload_n dX13_readPrint_92 rfl rfl ?_
          refine gR13_157 rfl dX13_readPrint_93 hRd ?_
          refine j_dup dX13_readPrint_96 rfl ?_
          refine gI13_316 (kM0 hM) dX13_readPrint_97 ?_
          rw [show y16 M 8 = nI (t 0 8) from rr16.1 8 (by decide)]
          refine j_iconst (v := nI 1) dX13_readPrint_100 (by decide) ?_
          refine j_iadd dX13_readPrint_101 ?_
          rw [nI_add]
          refine pI13_316 (kM0 hM) dX13_readPrint_102 ?_
          have FF17 := FF16.pu hM (a := M) (j := 8) (by omega) (nI ((t 0 8) + 1))
          have zz17 := zz16.pu (a := M) (j := 8) (by omega) (nI ((t 0 8) + 1))
          have rr17 := rr16.put0 (i := 8) (x := (t 0 8) + 1)
          have nn17 := nn16.pu (r := 0) (i := 8) (by decide) (fun _ => by decide) (nI ((t 0 8) + 1))
          rw [Nat.add_zero] at nn17
          generalize up y16 (M) (8) (nI ((t 0 8) + 1)) = y17 at FF17 zz17 rr17 nn17 ⊢
          refine j_vret rfl dX13_readPrint_105 ?_
          have HL : liA B n (p, N, t) = .inr (q13.1, N, ut (ut (ut (ut t 14 (t 0 8) q8) 15 (t 0 8) q11.2) 16 (t 0 8) q13.2) 0 8 (t 0 8 + 1)) := by rw [liA_6 hls ht hc]; simp only [liK, s8, s11, s13, u13, eb_r, eb_l]
          refine hp y17 l13 FF17 (fun e9 he9 => by rw [HL] at he9; cases he9) (fun s9 hs9 => ?_)
          rw [HL] at hs9
          cases hs9
          exact ⟨zz17, rr17, nn17⟩
theorem fN_t {s v : Nat} (h : fN B n N s p = .inr v) : tS B n p = 1 := by
  unfold fN at h
  by_cases hc : tS B n p = 1 ∧ lsN B n p = 7
  · exact hc.1
  · rw [if_pos hc] at h; cases h
theorem sh4 : ∀ u, u < 64 → (nI u >>> (nI 4 &&& 31)) &&& nI 3 = nI (u / 4 / 4 % 4) := by decide +kernel
theorem sh2 : ∀ u, u < 64 → (nI u >>> (nI 2 &&& 31)) &&& nI 3 = nI (u / 4 % 4) := by decide +kernel
theorem sh0 : ∀ u, u < 64 → (nI u >>> (nI 0 &&& 31)) &&& nI 3 = nI (u % 4) := by decide +kernel
theorem pMk_eq (t : TW) (p u l : Nat) : ut (ut (ut (ut (ut t 7 (5 * p + 0) (u / 4 / 4 % 4)) 7 (5 * p + 1) (u / 4 % 4)) 7 (5 * p + 2) (u % 4)) 7 (5 * p + 3) (l / 4 % 4)) 7 (5 * p + 4) (l % 4) = pMk t p u l := by
  funext r i
  by_cases q : r = 7
  · subst q
    rw [pMk_7, ut_r, ut_r, ut_r, ut_r, ut_r]
    simp only [Nat.add_zero]
    by_cases c0 : i = 5 * p
    · subst c0; simp
    by_cases c1 : i = 5 * p + 1
    · subst c1; simp
    by_cases c2 : i = 5 * p + 2
    · subst c2; simp
    by_cases c3 : i = 5 * p + 3
    · subst c3; simp
    by_cases c4 : i = 5 * p + 4
    · subst c4; simp
    simp [c0, c1, c2, c3, c4]
  · rw [pMk_o _ _ _ _ q, ut_o _ _ _ q, ut_o _ _ _ q, ut_o _ _ _ q, ut_o _ _ _ q, ut_o _ _ _ q]
theorem m_readHouse (hX : XM mr) (hM : MM M) (hY : XT mr M) (hRd : mr 1000 4 = some M) (hB : RBM mi B n) (hg : GB t) (hW : WT t) (hI : NI N t) (hU : t 0 2 = 0 → t 0 3 = 0 ∧ t 0 4 = 0 ∧ t 0 5 = 0 ∧ t 0 6 = 0 ∧ t 0 7 = 0 ∧ t 0 8 = 0) (hR : RM mi M t) (hN : RNM mi ml M N) (hz : MZ mi ml B n (.inr p)) (h1 : tS B n p = 1) (hls : lsN B n p = 1) (hp : hML post B n M mi ml mr dom (liA B n (p, N, t))) : CT G 11 0 0 yX13_readHouse cX13_readHouse 4 none [.ref 1000] mi ml mr dom post := by
  have w := hW.1
  have hge := hM.ge
  have hJ := hI.nj
  have hN2 := fun k hk => (hI.2.2 k hk).2.2
  have hsum := hI.2.1
  refine enter 3 (by decide) rfl rfl (fun X => ?_)
  refine j_aload_n dX13_readHouse_0 rfl rfl ?_
  refine j_aload_n dX13_readHouse_1 rfl rfl ?_
  refine gR13_157 rfl dX13_readHouse_2 hRd ?_
  refine gI13_196 (kM0 hM) dX13_readHouse_5 ?_
  rw [hR.1 3 (by decide)]
  refine j_bipush (v := nI 6) dX13_readHouse_8 (by decide) ?_
  refine cV13_236 (d1 := 3) rfl dX13_readHouse_10 (by decide) (Nat.le_of_ble_eq_true rfl) ?_
  refine m_lineB hX hM hg hRd hB (by omega) (by decide) (hR.1 2 (by decide)) hz h1 (fun m1 l1 f1 z1 => ?_)
  have F1 := f1
  have hcs : t 0 3 = 6 ∨ (t 0 3 ≠ 6 ∧ t 0 2 = 0) ∨ (t 0 3 ≠ 6 ∧ t 0 2 ≠ 0) := by omega
  rcases hcs with q1 | ⟨q1, q2⟩ | ⟨q1, q2⟩
  · rw [if_pos q1] at z1
    have ht : 0 < t 0 2 := by rcases Nat.eq_zero_or_pos (t 0 2) with q | q; have := hU q; omega; exact q
    have HL := liA_1m (N := N) (B := B) (n := n) hls ht (by omega)
    refine j_aload_n dX13_readHouse_13 rfl rfl ?_
    refine cV13_240 (d1 := 9) rfl dX13_readHouse_14 (by decide) (Nat.le_of_ble_eq_true rfl) ?_
    refine m_readFresh (x := .inl (5, tA B n p)) hX hM hY hRd (hB.f F1) (hN.f hM F1) z1 (fun v2 m2 l2 f2 z2 g2 => ?_)
    have z2 : MZ m2 l2 B n (.inl (5, tA B n p)) := z2
    have F2 := F1.tr f2
    refine j_lstore_n (lv2 := [_, _, _, _]) dX13_readHouse_17 rfl (by decide) rfl rfl ?_
    refine j_aload_n dX13_readHouse_18 rfl rfl ?_
    refine j_ldcS13_244 dX13_readHouse_19 ?_
    refine j_bipush (v := nI 10) dX13_readHouse_21 (by decide) ?_
    refine j_bipush (v := nI 59) dX13_readHouse_23 (by decide) ?_
    refine cV13_225 (d1 := 9) rfl dX13_readHouse_25 (by decide) (Nat.le_of_ble_eq_true rfl) ?_
    refine m_readPart (i := 10) (lo := 10) (hi := 59) (x := .inl (5, tA B n p)) hX (hB.f F2) (by decide) (by decide) (by decide) z2 (fun v3 m3 l3 f3 z3 g3 => ?_)
    have z3 : MZ m3 l3 B n (.inl (5, tA B n p)) := z3
    have F3 := F2.tr f3
    refine j_istore_n (lv2 := [_, _, _, _]) dX13_readHouse_28 rfl (by decide) rfl rfl ?_
    refine j_aload_n dX13_readHouse_29 rfl rfl ?_
    refine gI13_79 rfl dX13_readHouse_30 ?_
    rw [z3.1]
    refine j_iconst (v := nI 5) dX13_readHouse_33 (by decide) ?_
    refine j_icmp_ne (tgt := 38) dX13_readHouse_34 (by decide) (fun h34 => absurd (by decide) h34) (fun h34 => ?_)
    refine j_vret rfl dX13_readHouse_37 ?_
    exact hp m3 l3 (F3.fm M) (fun e9 he9 => by rw [HL] at he9; cases he9; exact z3) (fun s9 hs9 => by rw [HL] at hs9; cases hs9)
  · rw [if_neg q1, if_pos q2] at z1
    have HL := liA_n (N := N) (B := B) (n := n) (p := p) (t := t) (by omega) (by omega) (by omega)
    refine j_aload_n dX13_readHouse_13 rfl rfl ?_
    refine cV13_240 (d1 := 9) rfl dX13_readHouse_14 (by decide) (Nat.le_of_ble_eq_true rfl) ?_
    refine m_readFresh (x := .inl (6, tA B n p)) hX hM hY hRd (hB.f F1) (hN.f hM F1) z1 (fun v4 m4 l4 f4 z4 g4 => ?_)
    have z4 : MZ m4 l4 B n (.inl (6, tA B n p)) := z4
    have F4 := F1.tr f4
    refine j_lstore_n (lv2 := [_, _, _, _]) dX13_readHouse_17 rfl (by decide) rfl rfl ?_
    refine j_aload_n dX13_readHouse_18 rfl rfl ?_
    refine j_ldcS13_244 dX13_readHouse_19 ?_
    refine j_bipush (v := nI 10) dX13_readHouse_21 (by decide) ?_
    refine j_bipush (v := nI 59) dX13_readHouse_23 (by decide) ?_
    refine cV13_225 (d1 := 9) rfl dX13_readHouse_25 (by decide) (Nat.le_of_ble_eq_true rfl) ?_
    refine m_readPart (i := 10) (lo := 10) (hi := 59) (x := .inl (6, tA B n p)) hX (hB.f F4) (by decide) (by decide) (by decide) z4 (fun v5 m5 l5 f5 z5 g5 => ?_)
    have z5 : MZ m5 l5 B n (.inl (6, tA B n p)) := z5
    have F5 := F4.tr f5
    refine j_istore_n (lv2 := [_, _, _, _]) dX13_readHouse_28 rfl (by decide) rfl rfl ?_
    refine j_aload_n dX13_readHouse_29 rfl rfl ?_
    refine gI13_79 rfl dX13_readHouse_30 ?_
    rw [z5.1]
    refine j_iconst (v := nI 5) dX13_readHouse_33 (by decide) ?_
    refine j_icmp_ne (tgt := 38) dX13_readHouse_34 (by decide) (fun h34 => absurd (by decide) h34) (fun h34 => ?_)
    refine j_vret rfl dX13_readHouse_37 ?_
    exact hp m5 l5 (F5.fm M) (fun e9 he9 => by rw [HL] at he9; cases he9; exact z5) (fun s9 hs9 => by rw [HL] at hs9; cases hs9)
  · rw [if_neg q1, if_neg q2] at z1
    have ht : 0 < t 0 2 := by omega
    have hc : t 0 3 < 6 := by omega
    have h17 : N.1 < 17 := by omega
    refine j_aload_n dX13_readHouse_13 rfl rfl ?_
    refine cV13_240 (d1 := 9) rfl dX13_readHouse_14 (by decide) (Nat.le_of_ble_eq_true rfl) ?_
    refine m_readFresh (x := .inr (tE B n p)) hX hM hY hRd (hB.f F1) (hN.f hM F1) z1 (fun v6 m6 l6 f6 z6 g6 => ?_)
    have F6 := F1.tr f6
    have fr6 := frN_nN (B := B) (n := n) (p := tE B n p) (N := N) (s := 1) (k := t 0 3) h17
    have z6 : MZ m6 l6 B n (frN B n N (tE B n p)) := z6
    rcases s6 : nN B n N 1 (t 0 3) (tE B n p) with e6 | q6
    · rw [fr6, s6] at z6
      have z6 : MZ m6 l6 B n (.inl e6) := z6
      have HL : liA B n (p, N, t) = .inl e6 := by rw [liA_1 hls ht hc]; simp only [liH, s6, eb_l]
      refine j_lstore_n (lv2 := [_, _, _, _]) dX13_readHouse_17 rfl (by decide) rfl rfl ?_
      refine j_aload_n dX13_readHouse_18 rfl rfl ?_
      refine j_ldcS13_244 dX13_readHouse_19 ?_
      refine j_bipush (v := nI 10) dX13_readHouse_21 (by decide) ?_
      refine j_bipush (v := nI 59) dX13_readHouse_23 (by decide) ?_
      refine cV13_225 (d1 := 9) rfl dX13_readHouse_25 (by decide) (Nat.le_of_ble_eq_true rfl) ?_
      refine m_readPart (i := 10) (lo := 10) (hi := 59) (x := .inl e6) hX (hB.f F6) (by decide) (by decide) (by decide) z6 (fun v7 m7 l7 f7 z7 g7 => ?_)
      have z7 : MZ m7 l7 B n (.inl e6) := z7
      have F7 := F6.tr f7
      refine j_istore_n (lv2 := [_, _, _, _]) dX13_readHouse_28 rfl (by decide) rfl rfl ?_
      refine j_aload_n dX13_readHouse_29 rfl rfl ?_
      refine gI13_79 rfl dX13_readHouse_30 ?_
      rw [z7.1]
      refine j_iconst (v := nI 5) dX13_readHouse_33 (by decide) ?_
      refine j_icmp_ne (tgt := 38) dX13_readHouse_34 (by decide) (fun h34 => absurd (by decide) h34) (fun h34 => ?_)
      refine j_vret rfl dX13_readHouse_37 ?_
      exact hp m7 l7 (F7.fm M) (fun e9 he9 => by rw [HL] at he9; cases he9; exact z7) (fun s9 hs9 => by rw [HL] at hs9; cases hs9)
    · have w6 : v6 = tH B n (tE B n p) := g6 _ q6.1 rfl (by rw [fr6, s6]; rfl)
      rw [fr6, s6] at z6
      have z6 : MZ m6 l6 B n (.inr q6.1) := z6
      have eq6 := (nN_r s6).1
      subst w6
      refine j_lstore_n (lv2 := [_, _, _, _]) dX13_readHouse_17 rfl (by decide) rfl rfl ?_
      refine j_aload_n dX13_readHouse_18 rfl rfl ?_
      refine j_ldcS13_244 dX13_readHouse_19 ?_
      refine j_bipush (v := nI 10) dX13_readHouse_21 (by decide) ?_
      refine j_bipush (v := nI 59) dX13_readHouse_23 (by decide) ?_
      refine cV13_225 (d1 := 9) rfl dX13_readHouse_25 (by decide) (Nat.le_of_ble_eq_true rfl) ?_
      refine m_readPart (i := 10) (lo := 10) (hi := 59) (x := .inr q6.1) hX (hB.f F6) (by decide) (by decide) (by decide) z6 (fun v8 m8 l8 f8 z8 g8 => ?_)
      have F8 := F6.tr f8
      have z8 : MZ m8 l8 B n (es Prod.fst (eb (pW B n 10 (q6.1)) (pN B n 10 59))) := z8
      have g8 : ∀ q, eb (pW B n 10 (q6.1)) (pN B n 10 59) = .inr q → v8 = nI q.2 := g8
      have hst : (∃ e, pW B n 10 (q6.1) = .inl e) ∨ (∃ r e, pW B n 10 (q6.1) = .inr r ∧ pN B n 10 59 r = .inl e) ∨ ∃ r q, pW B n 10 (q6.1) = .inr r ∧ pN B n 10 59 r = .inr q := by
        cases s0 : pW B n 10 (q6.1) with
        | inl e => exact Or.inl ⟨e, rfl⟩
        | inr r =>
          cases u0 : pN B n 10 59 r with
          | inl e => exact Or.inr (Or.inl ⟨r, e, rfl, u0⟩)
          | inr q => exact Or.inr (Or.inr ⟨r, q, rfl, u0⟩)
      rcases hst with ⟨e8, s8⟩ | ⟨r8, e8, s8, u8⟩ | ⟨r8, q8, s8, u8⟩
      · rw [s8] at z8
        have z8 : MZ m8 l8 B n (.inl e8) := z8
        have HL : liA B n (p, N, t) = .inl e8 := by rw [liA_1 hls ht hc]; simp only [liH, s6, s8, eb_r, eb_l]
        refine j_istore_n (lv2 := [_, _, _, _]) dX13_readHouse_28 rfl (by decide) rfl rfl ?_
        refine j_aload_n dX13_readHouse_29 rfl rfl ?_
        refine gI13_79 rfl dX13_readHouse_30 ?_
        rw [z8.1]
        refine j_iconst (v := nI 5) dX13_readHouse_33 (by decide) ?_
        refine j_icmp_ne (tgt := 38) dX13_readHouse_34 (by decide) (fun h34 => absurd (by decide) h34) (fun h34 => ?_)
        refine j_vret rfl dX13_readHouse_37 ?_
        exact hp m8 l8 (F8.fm M) (fun e9 he9 => by rw [HL] at he9; cases he9; exact z8) (fun s9 hs9 => by rw [HL] at hs9; cases hs9)
      · rw [s8, eb_r, u8] at z8
        have z8 : MZ m8 l8 B n (.inl e8) := z8
        have HL : liA B n (p, N, t) = .inl e8 := by rw [liA_1 hls ht hc]; simp only [liH, s6, s8, u8, eb_r, eb_l]
        refine j_istore_n (lv2 := [_, _, _, _]) dX13_readHouse_28 rfl (by decide) rfl rfl ?_
        refine j_aload_n dX13_readHouse_29 rfl rfl ?_
        refine gI13_79 rfl dX13_readHouse_30 ?_
        rw [z8.1]
        refine j_iconst (v := nI 5) dX13_readHouse_33 (by decide) ?_
        refine j_icmp_ne (tgt := 38) dX13_readHouse_34 (by decide) (fun h34 => absurd (by decide) h34) (fun h34 => ?_)
        refine j_vret rfl dX13_readHouse_37 ?_
        exact hp m8 l8 (F8.fm M) (fun e9 he9 => by rw [HL] at he9; cases he9; exact z8) (fun s9 hs9 => by rw [HL] at hs9; cases hs9)
      · rw [s8, eb_r, u8] at z8
        have z8 : MZ m8 l8 B n (.inr q8.1) := z8
        have w8 : v8 = nI q8.2 := g8 q8 (by rw [s8, eb_r, u8])
        subst w8
        have b8 := pN_r u8
        refine j_istore_n (lv2 := [_, _, _, _]) dX13_readHouse_28 rfl (by decide) rfl rfl ?_
        refine j_aload_n dX13_readHouse_29 rfl rfl ?_
        refine gI13_79 rfl dX13_readHouse_30 ?_
        rw [z8.2.1.2.1]
        refine j_iconst (v := nI 5) dX13_readHouse_33 (by decide) ?_
        refine j_icmp_ne (tgt := 38) dX13_readHouse_34 (by decide) (fun h34 => ?_) (fun h34 => by exfalso; have h6 := sM_le (tS_le B n (q8.1)); rw [nI_eq (by omega) (by decide)] at h34; omega)
        refine j_aload_n dX13_readHouse_38 rfl rfl ?_
        refine j_lload_n dX13_readHouse_39 rfl rfl ?_
        refine j_iconst (v := nI 0) dX13_readHouse_40 (by decide) ?_
        refine j_aload_n dX13_readHouse_41 rfl rfl ?_
        refine gR13_157 rfl dX13_readHouse_42 hRd ?_
        refine gI13_196 (kM0 hM) dX13_readHouse_45 ?_
        rw [show m8 M 3 = nI (t 0 3) from (hR.f hM F8).1 3 (by decide)]
        refine cV13_246 (d1 := 1) rfl dX13_readHouse_48 (by decide) (Nat.le_of_ble_eq_true rfl) ?_
        refine m_names (s := 1) (k := t 0 3) hM hY hRd (hN.f hM F8) h17 (fun nn9 => ?_)
        have FF9 := (((((F8.fm M).pl N.1 (tH B n (tE B n p))).pu hM (a := M + 18) (j := N.1) (by omega) (nI (smc 1))).pu hM (a := M + 19) (j := N.1) (by omega) (nI (t 0 3))).pu hM (a := M) (j := 9) (by omega) (nI (N.1 + 1)))
        have zz9 := (((z8.pl (a := M + 17) (j := N.1) (by omega) (tH B n (tE B n p))).pu (a := M + 18) (j := N.1) (by omega) (nI (smc 1))).pu (a := M + 19) (j := N.1) (by omega) (nI (t 0 3))).pu (a := M) (j := 9) (by omega) (nI (N.1 + 1))
        have rr9 : RM _ M t := (((hR.f hM F8).o (a := M + 18) (j := N.1) (x := nI (smc 1)) (fun _ r _ _ => by omega) (fun q => by omega)).o (a := M + 19) (j := N.1) (x := nI (t 0 3)) (fun _ r _ _ => by omega) (fun q => by omega)).o (a := M) (j := 9) (x := nI (N.1 + 1)) (fun q => absurd rfl q) (fun _ => by omega)
        generalize up (up (up m8 (M + 18) N.1 (nI (smc 1))) (M + 19) N.1 (nI (t 0 3))) M 9 (nI (N.1 + 1)) = y9 at nn9 FF9 zz9 rr9 ⊢
        generalize upl l8 (M + 17) N.1 (tH B n (tE B n p)) = u9 at nn9 FF9 zz9 rr9 ⊢
        refine j_aload_n dX13_readHouse_51 rfl rfl ?_
        refine gR13_157 rfl dX13_readHouse_52 hRd ?_
        refine gR13_249 (kM0 hM) dX13_readHouse_55 (xM1 hY) ?_
        refine j_aload_n dX13_readHouse_58 rfl rfl ?_
        refine gR13_157 rfl dX13_readHouse_59 hRd ?_
        refine gI13_196 (kM0 hM) dX13_readHouse_62 ?_
        rw [show y9 M 3 = nI (t 0 3) from rr9.1 3 (by decide)]
        refine j_iload_n dX13_readHouse_65 rfl rfl ?_
        refine j_iast (kM1 hM) (inT (lM1 hM) (by have := hg 0 3; show t 0 3 < 6; omega) (by decide)) dX13_readHouse_66 ?_
        rw [nI_clamp (by have := hg 0 3; omega)]
        have FF10 := FF9.pu hM (a := M + 1) (j := t 0 3) (by omega) (nI (q8.2))
        have zz10 := zz9.pu (a := M + 1) (j := t 0 3) (by omega) (nI (q8.2))
        have rr10 := rr9.put (r := 1) (i := t 0 3) (x := q8.2) (by decide) (by decide)
        have nn10 := nn9.pu (r := 1) (i := t 0 3) (by decide) (fun q => absurd q (by decide)) (nI (q8.2))
        generalize up y9 (M + 1) (t 0 3) (nI (q8.2)) = y10 at FF10 zz10 rr10 nn10 ⊢
        refine j_aload_n dX13_readHouse_67 rfl rfl ?_
        refine gR13_157 rfl dX13_readHouse_68 hRd ?_
        refine j_dup dX13_readHouse_71 rfl ?_
        refine gI13_196 (kM0 hM) dX13_readHouse_72 ?_
        rw [show y10 M 3 = nI (t 0 3) from rr10.1 3 (by decide)]
        refine j_iconst (v := nI 1) dX13_readHouse_75 (by decide) ?_
        refine j_iadd dX13_readHouse_76 ?_
        rw [nI_add]
        refine pI13_196 (kM0 hM) dX13_readHouse_77 ?_
        have FF11 := FF10.pu hM (a := M) (j := 3) (by omega) (nI ((t 0 3) + 1))
        have zz11 := zz10.pu (a := M) (j := 3) (by omega) (nI ((t 0 3) + 1))
        have rr11 := rr10.put0 (i := 3) (x := (t 0 3) + 1)
        have nn11 := nn10.pu (r := 0) (i := 3) (by decide) (fun _ => by decide) (nI ((t 0 3) + 1))
        rw [Nat.add_zero] at nn11
        generalize up y10 (M) (3) (nI ((t 0 3) + 1)) = y11 at FF11 zz11 rr11 nn11 ⊢
        refine j_vret rfl dX13_readHouse_80 ?_
        have HL : liA B n (p, N, t) = .inr (q8.1, q6.2, ut (ut t 1 (t 0 3) q8.2) 0 3 (t 0 3 + 1)) := by rw [liA_1 hls ht hc]; simp only [liH, s6, s8, u8, eb_r, eb_l]
        refine hp y11 u9 FF11 (fun e9 he9 => by rw [HL] at he9; cases he9) (fun s9 hs9 => ?_)
        rw [HL] at hs9
        cases hs9
        exact ⟨zz11, rr11, (by rw [eq6]; exact nn11)⟩
theorem m_readGood (hX : XM mr) (hM : MM M) (hY : XT mr M) (hRd : mr 1000 4 = some M) (hB : RBM mi B n) (hg : GB t) (hW : WT t) (hI : NI N t) (hU : t 0 2 = 0 → t 0 3 = 0 ∧ t 0 4 = 0 ∧ t 0 5 = 0 ∧ t 0 6 = 0 ∧ t 0 7 = 0 ∧ t 0 8 = 0) (hR : RM mi M t) (hN : RNM mi ml M N) (hz : MZ mi ml B n (.inr p)) (h1 : tS B n p = 1) (hls : lsN B n p = 4) (hp : hML post B n M mi ml mr dom (liA B n (p, N, t))) : CT G 11 0 0 yX13_readGood cX13_readGood 7 none [.ref 1000] mi ml mr dom post := by
  have w := hW.1
  have hge := hM.ge
  have hJ := hI.nj
  have hN2 := fun k hk => (hI.2.2 k hk).2.2
  have hsum := hI.2.1
  refine enter 6 (by decide) rfl rfl (fun X => ?_)
  refine j_aload_n dX13_readGood_0 rfl rfl ?_
  refine j_aload_n dX13_readGood_1 rfl rfl ?_
  refine gR13_157 rfl dX13_readGood_2 hRd ?_
  refine gI13_288 (kM0 hM) dX13_readGood_5 ?_
  rw [hR.1 6 (by decide)]
  refine j_iconst (v := nI 5) dX13_readGood_8 (by decide) ?_
  refine cV13_236 (d1 := 3) rfl dX13_readGood_9 (by decide) (Nat.le_of_ble_eq_true rfl) ?_
  refine m_lineB hX hM hg hRd hB (by omega) (by decide) (hR.1 2 (by decide)) hz h1 (fun m1 l1 f1 z1 => ?_)
  have F1 := f1
  have hcs : t 0 6 = 5 ∨ (t 0 6 ≠ 5 ∧ t 0 2 = 0) ∨ (t 0 6 ≠ 5 ∧ t 0 2 ≠ 0) := by omega
  rcases hcs with q1 | ⟨q1, q2⟩ | ⟨q1, q2⟩
  · rw [if_pos q1] at z1
    have ht : 0 < t 0 2 := by rcases Nat.eq_zero_or_pos (t 0 2) with q | q; have := hU q; omega; exact q
    have HL := liA_4m (N := N) (B := B) (n := n) hls ht (by omega)
    refine j_aload_n dX13_readGood_12 rfl rfl ?_
    refine cV13_240 (d1 := 9) rfl dX13_readGood_13 (by decide) (Nat.le_of_ble_eq_true rfl) ?_
    refine m_readFresh (x := .inl (5, tA B n p)) hX hM hY hRd (hB.f F1) (hN.f hM F1) z1 (fun v2 m2 l2 f2 z2 g2 => ?_)
    have z2 : MZ m2 l2 B n (.inl (5, tA B n p)) := z2
    have F2 := F1.tr f2
    refine j_lstore_n (lv2 := [_, _, _, _, _, _, _]) dX13_readGood_16 rfl (by decide) rfl rfl ?_
    refine j_aload_n dX13_readGood_17 rfl rfl ?_
    refine j_ldcS13_291 dX13_readGood_18 ?_
    refine j_iconst (v := nI 1) dX13_readGood_21 (by decide) ?_
    refine j_sipush (v := nI 150) dX13_readGood_22 (by decide) ?_
    refine cV13_225 (d1 := 9) rfl dX13_readGood_25 (by decide) (Nat.le_of_ble_eq_true rfl) ?_
    refine m_readPart (i := 19) (lo := 1) (hi := 150) (x := .inl (5, tA B n p)) hX (hB.f F2) (by decide) (by decide) (by decide) z2 (fun v3 m3 l3 f3 z3 g3 => ?_)
    have z3 : MZ m3 l3 B n (.inl (5, tA B n p)) := z3
    have F3 := F2.tr f3
    refine j_istore_n (lv2 := [_, _, _, _, _, _, _]) dX13_readGood_28 rfl (by decide) rfl rfl ?_
    refine j_aload_n dX13_readGood_29 rfl rfl ?_
    refine j_ldcS13_292 dX13_readGood_30 ?_
    refine cV13_133 (d1 := 8) rfl dX13_readGood_33 (by decide) (Nat.le_of_ble_eq_true rfl) ?_
    refine m_needs (i := 20) (x := .inl (5, tA B n p)) hX (hB.f F3) (by decide) z3 (fun m4 l4 f4 z4 => ?_)
    have z4 : MZ m4 l4 B n (.inl (5, tA B n p)) := z4
    have F4 := F3.tr f4
    refine j_aload_n dX13_readGood_36 rfl rfl ?_
    refine j_iconst (v := nI 0) dX13_readGood_37 (by decide) ?_
    refine cV13_254 (d1 := 10) rfl dX13_readGood_38 (by decide) (Nat.le_of_ble_eq_true rfl) ?_
    refine m_readKnown (s := 1) (x := .inl (5, tA B n p)) hX hM hY hRd (hB.f F4) (hN.f hM F4) hN2 (by decide) z4 (fun v5 m5 l5 f5 z5 g5 => ?_)
    have z5 : MZ m5 l5 B n (.inl (5, tA B n p)) := z5
    have F5 := F4.tr f5
    refine j_istore (lv2 := [_, _, _, _, _, _, _]) dX13_readGood_41 (by decide) rfl rfl ?_
    refine j_aload_n dX13_readGood_43 rfl rfl ?_
    refine j_ldcS13_294 dX13_readGood_44 ?_
    refine cV13_133 (d1 := 8) rfl dX13_readGood_47 (by decide) (Nat.le_of_ble_eq_true rfl) ?_
    refine m_needs (i := 21) (x := .inl (5, tA B n p)) hX (hB.f F5) (by decide) z5 (fun m6 l6 f6 z6 => ?_)
    have z6 : MZ m6 l6 B n (.inl (5, tA B n p)) := z6
    have F6 := F5.tr f6
    refine j_aload_n dX13_readGood_50 rfl rfl ?_
    refine j_iconst (v := nI 0) dX13_readGood_51 (by decide) ?_
    refine cV13_187 (d1 := 9) rfl dX13_readGood_52 (by decide) (Nat.le_of_ble_eq_true rfl) ?_
    refine m_knownOne (s := 1) (x := .inl (5, tA B n p)) hX hM hY hRd (hB.f F6) (hN.f hM F6) hN2 (by decide) z6 (fun v7 m7 l7 f7 z7 g7 => ?_)
    have z7 : MZ m7 l7 B n (.inl (5, tA B n p)) := z7
    have F7 := F6.tr f7
    refine j_istore (lv2 := [_, _, _, _, _, _, _]) dX13_readGood_55 (by decide) rfl rfl ?_
    refine j_aload_n dX13_readGood_57 rfl rfl ?_
    refine gI13_79 rfl dX13_readGood_58 ?_
    rw [z7.1]
    refine j_iconst (v := nI 5) dX13_readGood_61 (by decide) ?_
    refine j_icmp_eq (tgt := 77) dX13_readGood_62 (by decide) (fun h62 => ?_) (fun h62 => absurd (by decide) h62)
    refine j_aload_n dX13_readGood_77 rfl rfl ?_
    refine cV13_118 (d1 := 2) rfl dX13_readGood_78 (by decide) (Nat.le_of_ble_eq_true rfl) ?_
    refine m_goesX (x := .inl (5, tA B n p)) hX (hB.f F7) z7 (fun q h => by cases h) (fun m8 l8 f8 z8 => ?_)
    have z8 : MZ m8 l8 B n (.inl (5, tA B n p)) := z8
    have F8 := F7.tr f8
    refine j_aload_n dX13_readGood_81 rfl rfl ?_
    refine gI13_79 rfl dX13_readGood_82 ?_
    rw [z8.1]
    refine j_iconst (v := nI 5) dX13_readGood_85 (by decide) ?_
    refine j_icmp_ne (tgt := 90) dX13_readGood_86 (by decide) (fun h86 => absurd (by decide) h86) (fun h86 => ?_)
    refine j_vret rfl dX13_readGood_89 ?_
    exact hp m8 l8 (F8.fm M) (fun e9 he9 => by rw [HL] at he9; cases he9; exact z8) (fun s9 hs9 => by rw [HL] at hs9; cases hs9)
  · rw [if_neg q1, if_pos q2] at z1
    have HL := liA_n (N := N) (B := B) (n := n) (p := p) (t := t) (by omega) (by omega) (by omega)
    refine j_aload_n dX13_readGood_12 rfl rfl ?_
    refine cV13_240 (d1 := 9) rfl dX13_readGood_13 (by decide) (Nat.le_of_ble_eq_true rfl) ?_
    refine m_readFresh (x := .inl (6, tA B n p)) hX hM hY hRd (hB.f F1) (hN.f hM F1) z1 (fun v9 m9 l9 f9 z9 g9 => ?_)
    have z9 : MZ m9 l9 B n (.inl (6, tA B n p)) := z9
    have F9 := F1.tr f9
    refine j_lstore_n (lv2 := [_, _, _, _, _, _, _]) dX13_readGood_16 rfl (by decide) rfl rfl ?_
    refine j_aload_n dX13_readGood_17 rfl rfl ?_
    refine j_ldcS13_291 dX13_readGood_18 ?_
    refine j_iconst (v := nI 1) dX13_readGood_21 (by decide) ?_
    refine j_sipush (v := nI 150) dX13_readGood_22 (by decide) ?_
    refine cV13_225 (d1 := 9) rfl dX13_readGood_25 (by decide) (Nat.le_of_ble_eq_true rfl) ?_
    refine m_readPart (i := 19) (lo := 1) (hi := 150) (x := .inl (6, tA B n p)) hX (hB.f F9) (by decide) (by decide) (by decide) z9 (fun v10 m10 l10 f10 z10 g10 => ?_)
    have z10 : MZ m10 l10 B n (.inl (6, tA B n p)) := z10
    have F10 := F9.tr f10
    refine j_istore_n (lv2 := [_, _, _, _, _, _, _]) dX13_readGood_28 rfl (by decide) rfl rfl ?_
    refine j_aload_n dX13_readGood_29 rfl rfl ?_
    refine j_ldcS13_292 dX13_readGood_30 ?_
    refine cV13_133 (d1 := 8) rfl dX13_readGood_33 (by decide) (Nat.le_of_ble_eq_true rfl) ?_
    refine m_needs (i := 20) (x := .inl (6, tA B n p)) hX (hB.f F10) (by decide) z10 (fun m11 l11 f11 z11 => ?_)
    have z11 : MZ m11 l11 B n (.inl (6, tA B n p)) := z11
    have F11 := F10.tr f11
    refine j_aload_n dX13_readGood_36 rfl rfl ?_
    refine j_iconst (v := nI 0) dX13_readGood_37 (by decide) ?_
    refine cV13_254 (d1 := 10) rfl dX13_readGood_38 (by decide) (Nat.le_of_ble_eq_true rfl) ?_
    refine m_readKnown (s := 1) (x := .inl (6, tA B n p)) hX hM hY hRd (hB.f F11) (hN.f hM F11) hN2 (by decide) z11 (fun v12 m12 l12 f12 z12 g12 => ?_)
    have z12 : MZ m12 l12 B n (.inl (6, tA B n p)) := z12
    have F12 := F11.tr f12
    refine j_istore (lv2 := [_, _, _, _, _, _, _]) dX13_readGood_41 (by decide) rfl rfl ?_
    refine j_aload_n dX13_readGood_43 rfl rfl ?_
    refine j_ldcS13_294 dX13_readGood_44 ?_
    refine cV13_133 (d1 := 8) rfl dX13_readGood_47 (by decide) (Nat.le_of_ble_eq_true rfl) ?_
    refine m_needs (i := 21) (x := .inl (6, tA B n p)) hX (hB.f F12) (by decide) z12 (fun m13 l13 f13 z13 => ?_)
    have z13 : MZ m13 l13 B n (.inl (6, tA B n p)) := z13
    have F13 := F12.tr f13
    refine j_aload_n dX13_readGood_50 rfl rfl ?_
    refine j_iconst (v := nI 0) dX13_readGood_51 (by decide) ?_
    refine cV13_187 (d1 := 9) rfl dX13_readGood_52 (by decide) (Nat.le_of_ble_eq_true rfl) ?_
    refine m_knownOne (s := 1) (x := .inl (6, tA B n p)) hX hM hY hRd (hB.f F13) (hN.f hM F13) hN2 (by decide) z13 (fun v14 m14 l14 f14 z14 g14 => ?_)
    have z14 : MZ m14 l14 B n (.inl (6, tA B n p)) := z14
    have F14 := F13.tr f14
    refine j_istore (lv2 := [_, _, _, _, _, _, _]) dX13_readGood_55 (by decide) rfl rfl ?_
    refine j_aload_n dX13_readGood_57 rfl rfl ?_
    refine gI13_79 rfl dX13_readGood_58 ?_
    rw [z14.1]
    refine j_iconst (v := nI 5) dX13_readGood_61 (by decide) ?_
    refine j_icmp_eq (tgt := 77) dX13_readGood_62 (by decide) (fun h62 => ?_) (fun h62 => absurd (by decide) h62)
    refine j_aload_n dX13_readGood_77 rfl rfl ?_
    refine cV13_118 (d1 := 2) rfl dX13_readGood_78 (by decide) (Nat.le_of_ble_eq_true rfl) ?_
    refine m_goesX (x := .inl (6, tA B n p)) hX (hB.f F14) z14 (fun q h => by cases h) (fun m15 l15 f15 z15 => ?_)
    have z15 : MZ m15 l15 B n (.inl (6, tA B n p)) := z15
    have F15 := F14.tr f15
    refine j_aload_n dX13_readGood_81 rfl rfl ?_
    refine gI13_79 rfl dX13_readGood_82 ?_
    rw [z15.1]
    refine j_iconst (v := nI 5) dX13_readGood_85 (by decide) ?_
    refine j_icmp_ne (tgt := 90) dX13_readGood_86 (by decide) (fun h86 => absurd (by decide) h86) (fun h86 => ?_)
    refine j_vret rfl dX13_readGood_89 ?_
    exact hp m15 l15 (F15.fm M) (fun e9 he9 => by rw [HL] at he9; cases he9; exact z15) (fun s9 hs9 => by rw [HL] at hs9; cases hs9)
  · rw [if_neg q1, if_neg q2] at z1
    have ht : 0 < t 0 2 := by omega
    have hc : t 0 6 < 5 := by omega
    have h17 : N.1 < 17 := by omega
    refine j_aload_n dX13_readGood_12 rfl rfl ?_
    refine cV13_240 (d1 := 9) rfl dX13_readGood_13 (by decide) (Nat.le_of_ble_eq_true rfl) ?_
    refine m_readFresh (x := .inr (tE B n p)) hX hM hY hRd (hB.f F1) (hN.f hM F1) z1 (fun v16 m16 l16 f16 z16 g16 => ?_)
    have F16 := F1.tr f16
    have fr16 := frN_nN (B := B) (n := n) (p := tE B n p) (N := N) (s := 4) (k := t 0 6) h17
    have z16 : MZ m16 l16 B n (frN B n N (tE B n p)) := z16
    rcases s16 : nN B n N 4 (t 0 6) (tE B n p) with e16 | q16
    · rw [fr16, s16] at z16
      have z16 : MZ m16 l16 B n (.inl e16) := z16
      have HL : liA B n (p, N, t) = .inl e16 := by rw [liA_4 hls ht hc]; simp only [liG, s16, eb_l]
      refine j_lstore_n (lv2 := [_, _, _, _, _, _, _]) dX13_readGood_16 rfl (by decide) rfl rfl ?_
      refine j_aload_n dX13_readGood_17 rfl rfl ?_
      refine j_ldcS13_291 dX13_readGood_18 ?_
      refine j_iconst (v := nI 1) dX13_readGood_21 (by decide) ?_
      refine j_sipush (v := nI 150) dX13_readGood_22 (by decide) ?_
      refine cV13_225 (d1 := 9) rfl dX13_readGood_25 (by decide) (Nat.le_of_ble_eq_true rfl) ?_
      refine m_readPart (i := 19) (lo := 1) (hi := 150) (x := .inl e16) hX (hB.f F16) (by decide) (by decide) (by decide) z16 (fun v17 m17 l17 f17 z17 g17 => ?_)
      have z17 : MZ m17 l17 B n (.inl e16) := z17
      have F17 := F16.tr f17
      refine j_istore_n (lv2 := [_, _, _, _, _, _, _]) dX13_readGood_28 rfl (by decide) rfl rfl ?_
      refine j_aload_n dX13_readGood_29 rfl rfl ?_
      refine j_ldcS13_292 dX13_readGood_30 ?_
      refine cV13_133 (d1 := 8) rfl dX13_readGood_33 (by decide) (Nat.le_of_ble_eq_true rfl) ?_
      refine m_needs (i := 20) (x := .inl e16) hX (hB.f F17) (by decide) z17 (fun m18 l18 f18 z18 => ?_)
      have z18 : MZ m18 l18 B n (.inl e16) := z18
      have F18 := F17.tr f18
      refine j_aload_n dX13_readGood_36 rfl rfl ?_
      refine j_iconst (v := nI 0) dX13_readGood_37 (by decide) ?_
      refine cV13_254 (d1 := 10) rfl dX13_readGood_38 (by decide) (Nat.le_of_ble_eq_true rfl) ?_
      refine m_readKnown (s := 1) (x := .inl e16) hX hM hY hRd (hB.f F18) (hN.f hM F18) hN2 (by decide) z18 (fun v19 m19 l19 f19 z19 g19 => ?_)
      have z19 : MZ m19 l19 B n (.inl e16) := z19
      have F19 := F18.tr f19
      refine j_istore (lv2 := [_, _, _, _, _, _, _]) dX13_readGood_41 (by decide) rfl rfl ?_
      refine j_aload_n dX13_readGood_43 rfl rfl ?_
      refine j_ldcS13_294 dX13_readGood_44 ?_
      refine cV13_133 (d1 := 8) rfl dX13_readGood_47 (by decide) (Nat.le_of_ble_eq_true rfl) ?_
      refine m_needs (i := 21) (x := .inl e16) hX (hB.f F19) (by decide) z19 (fun m20 l20 f20 z20 => ?_)
      have z20 : MZ m20 l20 B n (.inl e16) := z20
      have F20 := F19.tr f20
      refine j_aload_n dX13_readGood_50 rfl rfl ?_
      refine j_iconst (v := nI 0) dX13_readGood_51 (by decide) ?_
      refine cV13_187 (d1 := 9) rfl dX13_readGood_52 (by decide) (Nat.le_of_ble_eq_true rfl) ?_
      refine m_knownOne (s := 1) (x := .inl e16) hX hM hY hRd (hB.f F20) (hN.f hM F20) hN2 (by decide) z20 (fun v21 m21 l21 f21 z21 g21 => ?_)
      have z21 : MZ m21 l21 B n (.inl e16) := z21
      have F21 := F20.tr f21
      refine j_istore (lv2 := [_, _, _, _, _, _, _]) dX13_readGood_55 (by decide) rfl rfl ?_
      refine j_aload_n dX13_readGood_57 rfl rfl ?_
      refine gI13_79 rfl dX13_readGood_58 ?_
      rw [z21.1]
      refine j_iconst (v := nI 5) dX13_readGood_61 (by decide) ?_
      refine j_icmp_eq (tgt := 77) dX13_readGood_62 (by decide) (fun h62 => ?_) (fun h62 => absurd (by decide) h62)
      refine j_aload_n dX13_readGood_77 rfl rfl ?_
      refine cV13_118 (d1 := 2) rfl dX13_readGood_78 (by decide) (Nat.le_of_ble_eq_true rfl) ?_
      refine m_goesX (x := .inl e16) hX (hB.f F21) z21 (fun q h => by cases h) (fun m22 l22 f22 z22 => ?_)
      have z22 : MZ m22 l22 B n (.inl e16) := z22
      have F22 := F21.tr f22
      refine j_aload_n dX13_readGood_81 rfl rfl ?_
      refine gI13_79 rfl dX13_readGood_82 ?_
      rw [z22.1]
      refine j_iconst (v := nI 5) dX13_readGood_85 (by decide) ?_
      refine j_icmp_ne (tgt := 90) dX13_readGood_86 (by decide) (fun h86 => absurd (by decide) h86) (fun h86 => ?_)
      refine j_vret rfl dX13_readGood_89 ?_
      exact hp m22 l22 (F22.fm M) (fun e9 he9 => by rw [HL] at he9; cases he9; exact z22) (fun s9 hs9 => by rw [HL] at hs9; cases hs9)
    · have w16 : v16 = tH B n (tE B n p) := g16 _ q16.1 rfl (by rw [fr16, s16]; rfl)
      rw [fr16, s16] at z16
      have z16 : MZ m16 l16 B n (.inr q16.1) := z16
      have eq16 := (nN_r s16).1
      subst w16
      refine j_lstore_n (lv2 := [_, _, _, _, _, _, _]) dX13_readGood_16 rfl (by decide) rfl rfl ?_
      refine j_aload_n dX13_readGood_17 rfl rfl ?_
      refine j_ldcS13_291 dX13_readGood_18 ?_
      refine j_iconst (v := nI 1) dX13_readGood_21 (by decide) ?_
      refine j_sipush (v := nI 150) dX13_readGood_22 (by decide) ?_
      refine cV13_225 (d1 := 9) rfl dX13_readGood_25 (by decide) (Nat.le_of_ble_eq_true rfl) ?_
      refine m_readPart (i := 19) (lo := 1) (hi := 150) (x := .inr q16.1) hX (hB.f F16) (by decide) (by decide) (by decide) z16 (fun v23 m23 l23 f23 z23 g23 => ?_)
      have F23 := F16.tr f23
      have z23 : MZ m23 l23 B n (es Prod.fst (eb (pW B n 19 (q16.1)) (pN B n 1 150))) := z23
      have g23 : ∀ q, eb (pW B n 19 (q16.1)) (pN B n 1 150) = .inr q → v23 = nI q.2 := g23
      have hst : (∃ e, pW B n 19 (q16.1) = .inl e) ∨ (∃ r e, pW B n 19 (q16.1) = .inr r ∧ pN B n 1 150 r = .inl e) ∨ ∃ r q, pW B n 19 (q16.1) = .inr r ∧ pN B n 1 150 r = .inr q := by
        cases s0 : pW B n 19 (q16.1) with
        | inl e => exact Or.inl ⟨e, rfl⟩
        | inr r =>
          cases u0 : pN B n 1 150 r with
          | inl e => exact Or.inr (Or.inl ⟨r, e, rfl, u0⟩)
          | inr q => exact Or.inr (Or.inr ⟨r, q, rfl, u0⟩)
      rcases hst with ⟨e23, s23⟩ | ⟨r23, e23, s23, u23⟩ | ⟨r23, q23, s23, u23⟩
      · rw [s23] at z23
        have z23 : MZ m23 l23 B n (.inl e23) := z23
        have HL : liA B n (p, N, t) = .inl e23 := by rw [liA_4 hls ht hc]; simp only [liG, s16, s23, eb_r, eb_l]
        refine j_istore_n (lv2 := [_, _, _, _, _, _, _]) dX13_readGood_28 rfl (by decide) rfl rfl ?_
        refine j_aload_n dX13_readGood_29 rfl rfl ?_
        refine j_ldcS13_292 dX13_readGood_30 ?_
        refine cV13_133 (d1 := 8) rfl dX13_readGood_33 (by decide) (Nat.le_of_ble_eq_true rfl) ?_
        refine m_needs (i := 20) (x := .inl e23) hX (hB.f F23) (by decide) z23 (fun m24 l24 f24 z24 => ?_)
        have z24 : MZ m24 l24 B n (.inl e23) := z24
        have F24 := F23.tr f24
        refine j_aload_n dX13_readGood_36 rfl rfl ?_
        refine j_iconst (v := nI 0) dX13_readGood_37 (by decide) ?_
        refine cV13_254 (d1 := 10) rfl dX13_readGood_38 (by decide) (Nat.le_of_ble_eq_true rfl) ?_
        refine m_readKnown (s := 1) (x := .inl e23) hX hM hY hRd (hB.f F24) (hN.f hM F24) hN2 (by decide) z24 (fun v25 m25 l25 f25 z25 g25 => ?_)
        have z25 : MZ m25 l25 B n (.inl e23) := z25
        have F25 := F24.tr f25
        refine j_istore (lv2 := [_, _, _, _, _, _, _]) dX13_readGood_41 (by decide) rfl rfl ?_
        refine j_aload_n dX13_readGood_43 rfl rfl ?_
        refine j_ldcS13_294 dX13_readGood_44 ?_
        refine cV13_133 (d1 := 8) rfl dX13_readGood_47 (by decide) (Nat.le_of_ble_eq_true rfl) ?_
        refine m_needs (i := 21) (x := .inl e23) hX (hB.f F25) (by decide) z25 (fun m26 l26 f26 z26 => ?_)
        have z26 : MZ m26 l26 B n (.inl e23) := z26
        have F26 := F25.tr f26
        refine j_aload_n dX13_readGood_50 rfl rfl ?_
        refine j_iconst (v := nI 0) dX13_readGood_51 (by decide) ?_
        refine cV13_187 (d1 := 9) rfl dX13_readGood_52 (by decide) (Nat.le_of_ble_eq_true rfl) ?_
        refine m_knownOne (s := 1) (x := .inl e23) hX hM hY hRd (hB.f F26) (hN.f hM F26) hN2 (by decide) z26 (fun v27 m27 l27 f27 z27 g27 => ?_)
        have z27 : MZ m27 l27 B n (.inl e23) := z27
        have F27 := F26.tr f27
        refine j_istore (lv2 := [_, _, _, _, _, _, _]) dX13_readGood_55 (by decide) rfl rfl ?_
        refine j_aload_n dX13_readGood_57 rfl rfl ?_
        refine gI13_79 rfl dX13_readGood_58 ?_
        rw [z27.1]
        refine j_iconst (v := nI 5) dX13_readGood_61 (by decide) ?_
        refine j_icmp_eq (tgt := 77) dX13_readGood_62 (by decide) (fun h62 => ?_) (fun h62 => absurd (by decide) h62)
        refine j_aload_n dX13_readGood_77 rfl rfl ?_
        refine cV13_118 (d1 := 2) rfl dX13_readGood_78 (by decide) (Nat.le_of_ble_eq_true rfl) ?_
        refine m_goesX (x := .inl e23) hX (hB.f F27) z27 (fun q h => by cases h) (fun m28 l28 f28 z28 => ?_)
        have z28 : MZ m28 l28 B n (.inl e23) := z28
        have F28 := F27.tr f28
        refine j_aload_n dX13_readGood_81 rfl rfl ?_
        refine gI13_79 rfl dX13_readGood_82 ?_
        rw [z28.1]
        refine j_iconst (v := nI 5) dX13_readGood_85 (by decide) ?_
        refine j_icmp_ne (tgt := 90) dX13_readGood_86 (by decide) (fun h86 => absurd (by decide) h86) (fun h86 => ?_)
        refine j_vret rfl dX13_readGood_89 ?_
        exact hp m28 l28 (F28.fm M) (fun e9 he9 => by rw [HL] at he9; cases he9; exact z28) (fun s9 hs9 => by rw [HL] at hs9; cases hs9)
      · rw [s23, eb_r, u23] at z23
        have z23 : MZ m23 l23 B n (.inl e23) := z23
        have HL : liA B n (p, N, t) = .inl e23 := by rw [liA_4 hls ht hc]; simp only [liG, s16, s23, u23, eb_r, eb_l]
        refine j_istore_n (lv2 := [_, _, _, _, _, _, _]) dX13_readGood_28 rfl (by decide) rfl rfl ?_
        refine j_aload_n dX13_readGood_29 rfl rfl ?_
        refine j_ldcS13_292 dX13_readGood_30 ?_
        refine cV13_133 (d1 := 8) rfl dX13_readGood_33 (by decide) (Nat.le_of_ble_eq_true rfl) ?_
        refine m_needs (i := 20) (x := .inl e23) hX (hB.f F23) (by decide) z23 (fun m29 l29 f29 z29 => ?_)
        have z29 : MZ m29 l29 B n (.inl e23) := z29
        have F29 := F23.tr f29
        refine j_aload_n dX13_readGood_36 rfl rfl ?_
        refine j_iconst (v := nI 0) dX13_readGood_37 (by decide) ?_
        refine cV13_254 (d1 := 10) rfl dX13_readGood_38 (by decide) (Nat.le_of_ble_eq_true rfl) ?_
        refine m_readKnown (s := 1) (x := .inl e23) hX hM hY hRd (hB.f F29) (hN.f hM F29) hN2 (by decide) z29 (fun v30 m30 l30 f30 z30 g30 => ?_)
        have z30 : MZ m30 l30 B n (.inl e23) := z30
        have F30 := F29.tr f30
        refine j_istore (lv2 := [_, _, _, _, _, _, _]) dX13_readGood_41 (by decide) rfl rfl ?_
        refine j_aload_n dX13_readGood_43 rfl rfl ?_
        refine j_ldcS13_294 dX13_readGood_44 ?_
        refine cV13_133 (d1 := 8) rfl dX13_readGood_47 (by decide) (Nat.le_of_ble_eq_true rfl) ?_
        refine m_needs (i := 21) (x := .inl e23) hX (hB.f F30) (by decide) z30 (fun m31 l31 f31 z31 => ?_)
        have z31 : MZ m31 l31 B n (.inl e23) := z31
        have F31 := F30.tr f31
        refine j_aload_n dX13_readGood_50 rfl rfl ?_
        refine j_iconst (v := nI 0) dX13_readGood_51 (by decide) ?_
        refine cV13_187 (d1 := 9) rfl dX13_readGood_52 (by decide) (Nat.le_of_ble_eq_true rfl) ?_
        refine m_knownOne (s := 1) (x := .inl e23) hX hM hY hRd (hB.f F31) (hN.f hM F31) hN2 (by decide) z31 (fun v32 m32 l32 f32 z32 g32 => ?_)
        have z32 : MZ m32 l32 B n (.inl e23) := z32
        have F32 := F31.tr f32
        refine j_istore (lv2 := [_, _, _, _, _, _, _]) dX13_readGood_55 (by decide) rfl rfl ?_
        refine j_aload_n dX13_readGood_57 rfl rfl ?_
        refine gI13_79 rfl dX13_readGood_58 ?_
        rw [z32.1]
        refine j_iconst (v := nI 5) dX13_readGood_61 (by decide) ?_
        refine j_icmp_eq (tgt := 77) dX13_readGood_62 (by decide) (fun h62 => ?_) (fun h62 => absurd (by decide) h62)
        refine j_aload_n dX13_readGood_77 rfl rfl ?_
        refine cV13_118 (d1 := 2) rfl dX13_readGood_78 (by decide) (Nat.le_of_ble_eq_true rfl) ?_
        refine m_goesX (x := .inl e23) hX (hB.f F32) z32 (fun q h => by cases h) (fun m33 l33 f33 z33 => ?_)
        have z33 : MZ m33 l33 B n (.inl e23) := z33
        have F33 := F32.tr f33
        refine j_aload_n dX13_readGood_81 rfl rfl ?_
        refine gI13_79 rfl dX13_readGood_82 ?_
        rw [z33.1]
        refine j_iconst (v := nI 5) dX13_readGood_85 (by decide) ?_
        refine j_icmp_ne (tgt := 90) dX13_readGood_86 (by decide) (fun h86 => absurd (by decide) h86) (fun h86 => ?_)
        refine j_vret rfl dX13_readGood_89 ?_
        exact hp m33 l33 (F33.fm M) (fun e9 he9 => by rw [HL] at he9; cases he9; exact z33) (fun s9 hs9 => by rw [HL] at hs9; cases hs9)
      · rw [s23, eb_r, u23] at z23
        have z23 : MZ m23 l23 B n (.inr q23.1) := z23
        have w23 : v23 = nI q23.2 := g23 q23 (by rw [s23, eb_r, u23])
        subst w23
        have b23 := pN_r u23
        refine j_istore_n (lv2 := [_, _, _, _, _, _, _]) dX13_readGood_28 rfl (by decide) rfl rfl ?_
        refine j_aload_n dX13_readGood_29 rfl rfl ?_
        refine j_ldcS13_292 dX13_readGood_30 ?_
        refine cV13_133 (d1 := 8) rfl dX13_readGood_33 (by decide) (Nat.le_of_ble_eq_true rfl) ?_
        refine m_needs (i := 20) (x := .inr q23.1) hX (hB.f F23) (by decide) z23 (fun m34 l34 f34 z34 => ?_)
        have F34 := F23.tr f34
        have z34 : MZ m34 l34 B n (pW B n 20 (q23.1)) := z34
        rcases s34 : pW B n 20 (q23.1) with e34 | q34
        · rw [s34] at z34
          have HL : liA B n (p, N, t) = .inl e34 := by rw [liA_4 hls ht hc]; simp only [liG, s16, s23, u23, s34, eb_r, eb_l]
          refine j_aload_n dX13_readGood_36 rfl rfl ?_
          refine j_iconst (v := nI 0) dX13_readGood_37 (by decide) ?_
          refine cV13_254 (d1 := 10) rfl dX13_readGood_38 (by decide) (Nat.le_of_ble_eq_true rfl) ?_
          refine m_readKnown (s := 1) (x := .inl e34) hX hM hY hRd (hB.f F34) (hN.f hM F34) hN2 (by decide) z34 (fun v35 m35 l35 f35 z35 g35 => ?_)
          have z35 : MZ m35 l35 B n (.inl e34) := z35
          have F35 := F34.tr f35
          refine j_istore (lv2 := [_, _, _, _, _, _, _]) dX13_readGood_41 (by decide) rfl rfl ?_
          refine j_aload_n dX13_readGood_43 rfl rfl ?_
          refine j_ldcS13_294 dX13_readGood_44 ?_
          refine cV13_133 (d1 := 8) rfl dX13_readGood_47 (by decide) (Nat.le_of_ble_eq_true rfl) ?_
          refine m_needs (i := 21) (x := .inl e34) hX (hB.f F35) (by decide) z35 (fun m36 l36 f36 z36 => ?_)
          have z36 : MZ m36 l36 B n (.inl e34) := z36
          have F36 := F35.tr f36
          refine j_aload_n dX13_readGood_50 rfl rfl ?_
          refine j_iconst (v := nI 0) dX13_readGood_51 (by decide) ?_
          refine cV13_187 (d1 := 9) rfl dX13_readGood_52 (by decide) (Nat.le_of_ble_eq_true rfl) ?_
          refine m_knownOne (s := 1) (x := .inl e34) hX hM hY hRd (hB.f F36) (hN.f hM F36) hN2 (by decide) z36 (fun v37 m37 l37 f37 z37 g37 => ?_)
          have z37 : MZ m37 l37 B n (.inl e34) := z37
          have F37 := F36.tr f37
          refine j_istore (lv2 := [_, _, _, _, _, _, _]) dX13_readGood_55 (by decide) rfl rfl ?_
          refine j_aload_n dX13_readGood_57 rfl rfl ?_
          refine gI13_79 rfl dX13_readGood_58 ?_
          rw [z37.1]
          refine j_iconst (v := nI 5) dX13_readGood_61 (by decide) ?_
          refine j_icmp_eq (tgt := 77) dX13_readGood_62 (by decide) (fun h62 => ?_) (fun h62 => absurd (by decide) h62)
          refine j_aload_n dX13_readGood_77 rfl rfl ?_
          refine cV13_118 (d1 := 2) rfl dX13_readGood_78 (by decide) (Nat.le_of_ble_eq_true rfl) ?_
          refine m_goesX (x := .inl e34) hX (hB.f F37) z37 (fun q h => by cases h) (fun m38 l38 f38 z38 => ?_)
          have z38 : MZ m38 l38 B n (.inl e34) := z38
          have F38 := F37.tr f38
          refine j_aload_n dX13_readGood_81 rfl rfl ?_
          refine gI13_79 rfl dX13_readGood_82 ?_
          rw [z38.1]
          refine j_iconst (v := nI 5) dX13_readGood_85 (by decide) ?_
          refine j_icmp_ne (tgt := 90) dX13_readGood_86 (by decide) (fun h86 => absurd (by decide) h86) (fun h86 => ?_)
          refine j_vret rfl dX13_readGood_89 ?_
          exact hp m38 l38 (F38.fm M) (fun e9 he9 => by rw [HL] at he9; cases he9; exact z38) (fun s9 hs9 => by rw [HL] at hs9; cases hs9)
        · rw [s34] at z34
          refine j_aload_n dX13_readGood_36 rfl rfl ?_
          refine j_iconst (v := nI 0) dX13_readGood_37 (by decide) ?_
          refine cV13_254 (d1 := 10) rfl dX13_readGood_38 (by decide) (Nat.le_of_ble_eq_true rfl) ?_
          refine m_readKnown (s := 1) (x := .inr q34) hX hM hY hRd (hB.f F34) (hN.f hM F34) hN2 (by decide) z34 (fun v39 m39 l39 f39 z39 g39 => ?_)
          have F39 := F34.tr f39
          have z39 : MZ m39 l39 B n (es (fun _ => tE B n (q34)) (fN B n N 1 (q34))) := z39
          rcases s39 : fN B n N 1 (q34) with e39 | q39
          · have t39 := s39
            rw [← fN_ad (h := tH B n (tE B n p)) (s := 4) (k := t 0 6) (by decide), show adN N (tH B n (tE B n p)) 4 (t 0 6) = q16.2 by rw [eq16]] at t39
            rw [s39] at z39
            have z39 : MZ m39 l39 B n (.inl e39) := z39
            have HL : liA B n (p, N, t) = .inl e39 := by rw [liA_4 hls ht hc]; simp only [liG, s16, s23, u23, s34, t39, eb_r, eb_l]
            refine j_istore (lv2 := [_, _, _, _, _, _, _]) dX13_readGood_41 (by decide) rfl rfl ?_
            refine j_aload_n dX13_readGood_43 rfl rfl ?_
            refine j_ldcS13_294 dX13_readGood_44 ?_
            refine cV13_133 (d1 := 8) rfl dX13_readGood_47 (by decide) (Nat.le_of_ble_eq_true rfl) ?_
            refine m_needs (i := 21) (x := .inl e39) hX (hB.f F39) (by decide) z39 (fun m40 l40 f40 z40 => ?_)
            have z40 : MZ m40 l40 B n (.inl e39) := z40
            have F40 := F39.tr f40
            refine j_aload_n dX13_readGood_50 rfl rfl ?_
            refine j_iconst (v := nI 0) dX13_readGood_51 (by decide) ?_
            refine cV13_187 (d1 := 9) rfl dX13_readGood_52 (by decide) (Nat.le_of_ble_eq_true rfl) ?_
            refine m_knownOne (s := 1) (x := .inl e39) hX hM hY hRd (hB.f F40) (hN.f hM F40) hN2 (by decide) z40 (fun v41 m41 l41 f41 z41 g41 => ?_)
            have z41 : MZ m41 l41 B n (.inl e39) := z41
            have F41 := F40.tr f41
            refine j_istore (lv2 := [_, _, _, _, _, _, _]) dX13_readGood_55 (by decide) rfl rfl ?_
            refine j_aload_n dX13_readGood_57 rfl rfl ?_
            refine gI13_79 rfl dX13_readGood_58 ?_
            rw [z41.1]
            refine j_iconst (v := nI 5) dX13_readGood_61 (by decide) ?_
            refine j_icmp_eq (tgt := 77) dX13_readGood_62 (by decide) (fun h62 => ?_) (fun h62 => absurd (by decide) h62)
            refine j_aload_n dX13_readGood_77 rfl rfl ?_
            refine cV13_118 (d1 := 2) rfl dX13_readGood_78 (by decide) (Nat.le_of_ble_eq_true rfl) ?_
            refine m_goesX (x := .inl e39) hX (hB.f F41) z41 (fun q h => by cases h) (fun m42 l42 f42 z42 => ?_)
            have z42 : MZ m42 l42 B n (.inl e39) := z42
            have F42 := F41.tr f42
            refine j_aload_n dX13_readGood_81 rfl rfl ?_
            refine gI13_79 rfl dX13_readGood_82 ?_
            rw [z42.1]
            refine j_iconst (v := nI 5) dX13_readGood_85 (by decide) ?_
            refine j_icmp_ne (tgt := 90) dX13_readGood_86 (by decide) (fun h86 => absurd (by decide) h86) (fun h86 => ?_)
            refine j_vret rfl dX13_readGood_89 ?_
            exact hp m42 l42 (F42.fm M) (fun e9 he9 => by rw [HL] at he9; cases he9; exact z42) (fun s9 hs9 => by rw [HL] at hs9; cases hs9)
          · have t39 := s39
            rw [← fN_ad (h := tH B n (tE B n p)) (s := 4) (k := t 0 6) (by decide), show adN N (tH B n (tE B n p)) 4 (t 0 6) = q16.2 by rw [eq16]] at t39
            rw [s39] at z39
            have z39 : MZ m39 l39 B n (.inr (tE B n (q34))) := z39
            have w39 : v39 = nI q39 := g39 _ q39 rfl s39
            subst w39
            have b39 := fN_lt hJ s39
            simp only [true_implies, Nat.reduceEqDiff, false_implies, and_true, true_and] at b39
            refine j_istore (lv2 := [_, _, _, _, _, _, _]) dX13_readGood_41 (by decide) rfl rfl ?_
            refine j_aload_n dX13_readGood_43 rfl rfl ?_
            refine j_ldcS13_294 dX13_readGood_44 ?_
            refine cV13_133 (d1 := 8) rfl dX13_readGood_47 (by decide) (Nat.le_of_ble_eq_true rfl) ?_
            refine m_needs (i := 21) (x := .inr (tE B n (q34))) hX (hB.f F39) (by decide) z39 (fun m43 l43 f43 z43 => ?_)
            have F43 := F39.tr f43
            have z43 : MZ m43 l43 B n (pW B n 21 (tE B n (q34))) := z43
            rcases s43 : pW B n 21 (tE B n (q34)) with e43 | q43
            · rw [s43] at z43
              have HL : liA B n (p, N, t) = .inl e43 := by rw [liA_4 hls ht hc]; simp only [liG, s16, s23, u23, s34, t39, s43, eb_r, eb_l]
              refine j_aload_n dX13_readGood_50 rfl rfl ?_
              refine j_iconst (v := nI 0) dX13_readGood_51 (by decide) ?_
              refine cV13_187 (d1 := 9) rfl dX13_readGood_52 (by decide) (Nat.le_of_ble_eq_true rfl) ?_
              refine m_knownOne (s := 1) (x := .inl e43) hX hM hY hRd (hB.f F43) (hN.f hM F43) hN2 (by decide) z43 (fun v44 m44 l44 f44 z44 g44 => ?_)
              have z44 : MZ m44 l44 B n (.inl e43) := z44
              have F44 := F43.tr f44
              refine j_istore (lv2 := [_, _, _, _, _, _, _]) dX13_readGood_55 (by decide) rfl rfl ?_
              refine j_aload_n dX13_readGood_57 rfl rfl ?_
              refine gI13_79 rfl dX13_readGood_58 ?_
              rw [z44.1]
              refine j_iconst (v := nI 5) dX13_readGood_61 (by decide) ?_
              refine j_icmp_eq (tgt := 77) dX13_readGood_62 (by decide) (fun h62 => ?_) (fun h62 => absurd (by decide) h62)
              refine j_aload_n dX13_readGood_77 rfl rfl ?_
              refine cV13_118 (d1 := 2) rfl dX13_readGood_78 (by decide) (Nat.le_of_ble_eq_true rfl) ?_
              refine m_goesX (x := .inl e43) hX (hB.f F44) z44 (fun q h => by cases h) (fun m45 l45 f45 z45 => ?_)
              have z45 : MZ m45 l45 B n (.inl e43) := z45
              have F45 := F44.tr f45
              refine j_aload_n dX13_readGood_81 rfl rfl ?_
              refine gI13_79 rfl dX13_readGood_82 ?_
              rw [z45.1]
              refine j_iconst (v := nI 5) dX13_readGood_85 (by decide) ?_
              refine j_icmp_ne (tgt := 90) dX13_readGood_86 (by decide) (fun h86 => absurd (by decide) h86) (fun h86 => ?_)
              refine j_vret rfl dX13_readGood_89 ?_
              exact hp m45 l45 (F45.fm M) (fun e9 he9 => by rw [HL] at he9; cases he9; exact z45) (fun s9 hs9 => by rw [HL] at hs9; cases hs9)
            · rw [s43] at z43
              refine j_aload_n dX13_readGood_50 rfl rfl ?_
              refine j_iconst (v := nI 0) dX13_readGood_51 (by decide) ?_
              refine cV13_187 (d1 := 9) rfl dX13_readGood_52 (by decide) (Nat.le_of_ble_eq_true rfl) ?_
              refine m_knownOne (s := 1) (x := .inr q43) hX hM hY hRd (hB.f F43) (hN.f hM F43) hN2 (by decide) z43 (fun v46 m46 l46 f46 z46 g46 => ?_)
              have F46 := F43.tr f46
              have z46 : MZ m46 l46 B n (es (fun _ => q43) (fN B n N 1 (q43))) := z46
              rcases s46 : fN B n N 1 (q43) with e46 | q46
              · have t46 := s46
                rw [← fN_ad (h := tH B n (tE B n p)) (s := 4) (k := t 0 6) (by decide), show adN N (tH B n (tE B n p)) 4 (t 0 6) = q16.2 by rw [eq16]] at t46
                rw [s46] at z46
                have z46 : MZ m46 l46 B n (.inl e46) := z46
                have HL : liA B n (p, N, t) = .inl e46 := by rw [liA_4 hls ht hc]; simp only [liG, s16, s23, u23, s34, t39, s43, t46, eb_r, eb_l]
                refine j_istore (lv2 := [_, _, _, _, _, _, _]) dX13_readGood_55 (by decide) rfl rfl ?_
                refine j_aload_n dX13_readGood_57 rfl rfl ?_
                refine gI13_79 rfl dX13_readGood_58 ?_
                rw [z46.1]
                refine j_iconst (v := nI 5) dX13_readGood_61 (by decide) ?_
                refine j_icmp_eq (tgt := 77) dX13_readGood_62 (by decide) (fun h62 => ?_) (fun h62 => absurd (by decide) h62)
                refine j_aload_n dX13_readGood_77 rfl rfl ?_
                refine cV13_118 (d1 := 2) rfl dX13_readGood_78 (by decide) (Nat.le_of_ble_eq_true rfl) ?_
                refine m_goesX (x := .inl e46) hX (hB.f F46) z46 (fun q h => by cases h) (fun m47 l47 f47 z47 => ?_)
                have z47 : MZ m47 l47 B n (.inl e46) := z47
                have F47 := F46.tr f47
                refine j_aload_n dX13_readGood_81 rfl rfl ?_
                refine gI13_79 rfl dX13_readGood_82 ?_
                rw [z47.1]
                refine j_iconst (v := nI 5) dX13_readGood_85 (by decide) ?_
                refine j_icmp_ne (tgt := 90) dX13_readGood_86 (by decide) (fun h86 => absurd (by decide) h86) (fun h86 => ?_)
                refine j_vret rfl dX13_readGood_89 ?_
                exact hp m47 l47 (F47.fm M) (fun e9 he9 => by rw [HL] at he9; cases he9; exact z47) (fun s9 hs9 => by rw [HL] at hs9; cases hs9)
              · have t46 := s46
                rw [← fN_ad (h := tH B n (tE B n p)) (s := 4) (k := t 0 6) (by decide), show adN N (tH B n (tE B n p)) 4 (t 0 6) = q16.2 by rw [eq16]] at t46
                rw [s46] at z46
                have z46 : MZ m46 l46 B n (.inr (q43)) := z46
                have w46 : v46 = nI q46 := g46 _ q46 rfl s46
                subst w46
                have b46 := fN_lt hJ s46
                simp only [true_implies, Nat.reduceEqDiff, false_implies, and_true, true_and] at b46
                refine j_istore (lv2 := [_, _, _, _, _, _, _]) dX13_readGood_55 (by decide) rfl rfl ?_
                refine j_aload_n dX13_readGood_57 rfl rfl ?_
                refine gI13_79 rfl dX13_readGood_58 ?_
                rw [z46.2.1.2.1]
                refine j_iconst (v := nI 5) dX13_readGood_61 (by decide) ?_
                refine j_icmp_eq (tgt := 77) dX13_readGood_62 (by decide) (fun h62 => by exfalso; have h6 := sM_le (tS_le B n (q43)); rw [nI_eq (by omega) (by decide)] at h62; omega) (fun h62 => ?_)
                refine j_iload dX13_readGood_65 rfl ?_
                refine j_iload dX13_readGood_67 rfl ?_
                refine j_icmp_ne (tgt := 77) dX13_readGood_69 (by decide) (fun h69 => ?_) (fun h69 => ?_)
                all_goals rw [nI_eq (by have := b39; omega) (by have := b46; omega)] at h69
                · have e69 : ¬ q46 = q39 := fun z => h69 z.symm
                  refine j_aload_n dX13_readGood_77 rfl rfl ?_
                  refine cV13_118 (d1 := 2) rfl dX13_readGood_78 (by decide) (Nat.le_of_ble_eq_true rfl) ?_
                  refine m_goesX (x := .inr q43) hX (hB.f F46) z46 (fun q h => by cases h; have := fN_t s46; omega) (fun m48 l48 f48 z48 => ?_)
                  have F48 := F46.tr f48
                  have z48 : MZ m48 l48 B n (.inr (tE B n (q43))) := z48
                  refine j_aload_n dX13_readGood_81 rfl rfl ?_
                  refine gI13_79 rfl dX13_readGood_82 ?_
                  rw [z48.2.1.2.1]
                  refine j_iconst (v := nI 5) dX13_readGood_85 (by decide) ?_
                  refine j_icmp_ne (tgt := 90) dX13_readGood_86 (by decide) (fun h86 => ?_) (fun h86 => by exfalso; have h6 := sM_le (tS_le B n (tE B n (q43))); rw [nI_eq (by omega) (by decide)] at h86; omega)
                  refine j_aload_n dX13_readGood_90 rfl rfl ?_
                  refine gR13_157 rfl dX13_readGood_91 hRd ?_
                  refine gI13_288 (kM0 hM) dX13_readGood_94 ?_
                  rw [show m48 M 6 = nI (t 0 6) from (hR.f hM F48).1 6 (by decide)]
                  refine j_istore (lv2 := [_, _, _, _, _, _, _]) dX13_readGood_97 (by decide) rfl rfl ?_
                  refine j_aload_n dX13_readGood_99 rfl rfl ?_
                  refine j_lload_n dX13_readGood_100 rfl rfl ?_
                  refine j_iconst (v := nI 2) dX13_readGood_101 (by decide) ?_
                  refine j_iload dX13_readGood_102 rfl ?_
                  refine cV13_246 (d1 := 1) rfl dX13_readGood_104 (by decide) (Nat.le_of_ble_eq_true rfl) ?_
                  refine m_names (s := 4) (k := t 0 6) hM hY hRd (hN.f hM F48) h17 (fun nn49 => ?_)
                  have FF49 := (((((F48.fm M).pl N.1 (tH B n (tE B n p))).pu hM (a := M + 18) (j := N.1) (by omega) (nI (smc 4))).pu hM (a := M + 19) (j := N.1) (by omega) (nI (t 0 6))).pu hM (a := M) (j := 9) (by omega) (nI (N.1 + 1)))
                  have zz49 := (((z48.pl (a := M + 17) (j := N.1) (by omega) (tH B n (tE B n p))).pu (a := M + 18) (j := N.1) (by omega) (nI (smc 4))).pu (a := M + 19) (j := N.1) (by omega) (nI (t 0 6))).pu (a := M) (j := 9) (by omega) (nI (N.1 + 1))
                  have rr49 : RM _ M t := (((hR.f hM F48).o (a := M + 18) (j := N.1) (x := nI (smc 4)) (fun _ r _ _ => by omega) (fun q => by omega)).o (a := M + 19) (j := N.1) (x := nI (t 0 6)) (fun _ r _ _ => by omega) (fun q => by omega)).o (a := M) (j := 9) (x := nI (N.1 + 1)) (fun q => absurd rfl q) (fun _ => by omega)
                  generalize up (up (up m48 (M + 18) N.1 (nI (smc 4))) (M + 19) N.1 (nI (t 0 6))) M 9 (nI (N.1 + 1)) = y49 at nn49 FF49 zz49 rr49 ⊢
                  generalize upl l48 (M + 17) N.1 (tH B n (tE B n p)) = u49 at nn49 FF49 zz49 rr49 ⊢
                  refine j_aload_n dX13_readGood_107 rfl rfl ?_
                  refine gR13_157 rfl dX13_readGood_108 hRd ?_
                  refine gR13_296 (kM0 hM) dX13_readGood_111 (xM8 hY) ?_
                  refine j_iload dX13_readGood_114 rfl ?_
                  refine j_iload_n dX13_readGood_116 rfl rfl ?_
                  refine j_iast (kM8 hM) (inT (lM8 hM) (by have := hg 0 6; show t 0 6 < 5; omega) (by decide)) dX13_readGood_117 ?_
                  rw [nI_clamp (by have := hg 0 6; omega)]
                  have FF50 := FF49.pu hM (a := M + 8) (j := t 0 6) (by omega) (nI (q23.2))
                  have zz50 := zz49.pu (a := M + 8) (j := t 0 6) (by omega) (nI (q23.2))
                  have rr50 := rr49.put (r := 8) (i := t 0 6) (x := q23.2) (by decide) (by decide)
                  have nn50 := nn49.pu (r := 8) (i := t 0 6) (by decide) (fun q => absurd q (by decide)) (nI (q23.2))
                  generalize up y49 (M + 8) (t 0 6) (nI (q23.2)) = y50 at FF50 zz50 rr50 nn50 ⊢
                  refine j_aload_n dX13_readGood_118 rfl rfl ?_
                  refine gR13_157 rfl dX13_readGood_119 hRd ?_
                  refine gR13_298 (kM0 hM) dX13_readGood_122 (xM9 hY) ?_
                  refine j_iload dX13_readGood_125 rfl ?_
                  refine j_iload dX13_readGood_127 rfl ?_
                  refine j_iast (kM9 hM) (inT (lM9 hM) (by have := hg 0 6; show t 0 6 < 5; omega) (by decide)) dX13_readGood_129 ?_
                  rw [nI_clamp (by have := hg 0 6; omega)]
                  have FF51 := FF50.pu hM (a := M + 9) (j := t 0 6) (by omega) (nI (q39))
                  have zz51 := zz50.pu (a := M + 9) (j := t 0 6) (by omega) (nI (q39))
                  have rr51 := rr50.put (r := 9) (i := t 0 6) (x := q39) (by decide) (by decide)
                  have nn51 := nn50.pu (r := 9) (i := t 0 6) (by decide) (fun q => absurd q (by decide)) (nI (q39))
                  generalize up y50 (M + 9) (t 0 6) (nI (q39)) = y51 at FF51 zz51 rr51 nn51 ⊢
                  refine j_aload_n dX13_readGood_130 rfl rfl ?_
                  refine gR13_157 rfl dX13_readGood_131 hRd ?_
                  refine gR13_300 (kM0 hM) dX13_readGood_134 (xM10 hY) ?_
                  refine j_iload dX13_readGood_137 rfl ?_
                  refine j_iload dX13_readGood_139 rfl ?_
                  refine j_iast (kM10 hM) (inT (lM10 hM) (by have := hg 0 6; show t 0 6 < 5; omega) (by decide)) dX13_readGood_141 ?_
                  rw [nI_clamp (by have := hg 0 6; omega)]
                  have FF52 := FF51.pu hM (a := M + 10) (j := t 0 6) (by omega) (nI (q46))
                  have zz52 := zz51.pu (a := M + 10) (j := t 0 6) (by omega) (nI (q46))
                  have rr52 := rr51.put (r := 10) (i := t 0 6) (x := q46) (by decide) (by decide)
                  have nn52 := nn51.pu (r := 10) (i := t 0 6) (by decide) (fun q => absurd q (by decide)) (nI (q46))
                  generalize up y51 (M + 10) (t 0 6) (nI (q46)) = y52 at FF52 zz52 rr52 nn52 ⊢
                  refine j_aload_n dX13_readGood_142 rfl rfl ?_
                  refine gR13_157 rfl dX13_readGood_143 hRd ?_
                  refine j_dup dX13_readGood_146 rfl ?_
                  refine gI13_288 (kM0 hM) dX13_readGood_147 ?_
                  rw [show y52 M 6 = nI (t 0 6) from rr52.1 6 (by decide)]
                  refine j_iconst (v := nI 1) dX13_readGood_150 (by decide) ?_
                  refine j_iadd dX13_readGood_151 ?_
                  rw [nI_add]
                  refine pI13_288 (kM0 hM) dX13_readGood_152 ?_
                  have FF53 := FF52.pu hM (a := M) (j := 6) (by omega) (nI ((t 0 6) + 1))
                  have zz53 := zz52.pu (a := M) (j := 6) (by omega) (nI ((t 0 6) + 1))
                  have rr53 := rr52.put0 (i := 6) (x := (t 0 6) + 1)
                  have nn53 := nn52.pu (r := 0) (i := 6) (by decide) (fun _ => by decide) (nI ((t 0 6) + 1))
                  rw [Nat.add_zero] at nn53
                  generalize up y52 (M) (6) (nI ((t 0 6) + 1)) = y53 at FF53 zz53 rr53 nn53 ⊢
                  refine j_vret rfl dX13_readGood_155 ?_
                  have HL : liA B n (p, N, t) = .inr (tE B n (q43), q16.2, ut (ut (ut (ut t 8 (t 0 6) q23.2) 9 (t 0 6) q39) 10 (t 0 6) q46) 0 6 (t 0 6 + 1)) := by rw [liA_4 hls ht hc]; simp only [liG, s16, s23, u23, s34, t39, s43, t46, if_neg e69, eb_r, eb_l]
                  refine hp y53 u49 FF53 (fun e9 he9 => by rw [HL] at he9; cases he9) (fun s9 hs9 => ?_)
                  rw [HL] at hs9
                  cases hs9
                  exact ⟨zz53, rr53, (by rw [eq16]; exact nn53)⟩
                · refine j_aload_n dX13_readGood_72 rfl rfl ?_
                  refine j_iconst (v := nI 3) dX13_readGood_73 (by decide) ?_
                  refine cV13_125 (d1 := 1) rfl dX13_readGood_74 (by decide) (Nat.le_of_ble_eq_true rfl) ?_
                  refine m_flawN (k := 3) z46 (fun m54 f54 z54 => ?_)
                  have F54 := F46.tr f54
                  have e69 : q46 = q39 := h69.symm
                  have HL : liA B n (p, N, t) = .inl (3, tA B n (q43)) := by rw [liA_4 hls ht hc]; simp only [liG, s16, s23, u23, s34, t39, s43, t46, if_pos e69, eb_r, eb_l]
                  refine j_aload_n dX13_readGood_77 rfl rfl ?_
                  refine cV13_118 (d1 := 2) rfl dX13_readGood_78 (by decide) (Nat.le_of_ble_eq_true rfl) ?_
                  refine m_goesX (x := .inl (3, tA B n (q43))) hX (hB.f F54) z54 (fun q h => by cases h) (fun m55 l55 f55 z55 => ?_)
                  have z55 : MZ m55 l55 B n (.inl (3, tA B n (q43))) := z55
                  have F55 := F54.tr f55
                  refine j_aload_n dX13_readGood_81 rfl rfl ?_
                  refine gI13_79 rfl dX13_readGood_82 ?_
                  rw [z55.1]
                  refine j_iconst (v := nI 5) dX13_readGood_85 (by decide) ?_
                  refine j_icmp_ne (tgt := 90) dX13_readGood_86 (by decide) (fun h86 => absurd (by decide) h86) (fun h86 => ?_)
                  refine j_vret rfl dX13_readGood_89 ?_
                  exact hp m55 l55 (F55.fm M) (fun e9 he9 => by rw [HL] at he9; cases he9; exact z55) (fun s9 hs9 => by rw [HL] at hs9; cases hs9)
theorem m_readLane (hX : XM mr) (hM : MM M) (hY : XT mr M) (hRd : mr 1000 4 = some M) (hB : RBM mi B n) (hg : GB t) (hW : WT t) (hI : NI N t) (hU : t 0 2 = 0 → t 0 3 = 0 ∧ t 0 4 = 0 ∧ t 0 5 = 0 ∧ t 0 6 = 0 ∧ t 0 7 = 0 ∧ t 0 8 = 0) (hR : RM mi M t) (hN : RNM mi ml M N) (hz : MZ mi ml B n (.inr p)) (h1 : tS B n p = 1) (hls : lsN B n p = 2) (hp : hML post B n M mi ml mr dom (liA B n (p, N, t))) : CT G 11 0 0 yX13_readLane cX13_readLane 4 none [.ref 1000] mi ml mr dom post := by
  have w := hW.1
  have hge := hM.ge
  have hJ := hI.nj
  have hN2 := fun k hk => (hI.2.2 k hk).2.2
  have hsum := hI.2.1
  refine enter 3 (by decide) rfl rfl (fun X => ?_)
  refine j_aload_n dX13_readLane_0 rfl rfl ?_
  refine j_aload_n dX13_readLane_1 rfl rfl ?_
  refine gR13_157 rfl dX13_readLane_2 hRd ?_
  refine gI13_251 (kM0 hM) dX13_readLane_5 ?_
  rw [hR.1 4 (by decide)]
  refine j_bipush (v := nI 9) dX13_readLane_8 (by decide) ?_
  refine cV13_236 (d1 := 3) rfl dX13_readLane_10 (by decide) (Nat.le_of_ble_eq_true rfl) ?_
  refine m_lineB hX hM hg hRd hB (by omega) (by decide) (hR.1 2 (by decide)) hz h1 (fun m1 l1 f1 z1 => ?_)
  have F1 := f1
  have hcs : t 0 4 = 9 ∨ (t 0 4 ≠ 9 ∧ t 0 2 = 0) ∨ (t 0 4 ≠ 9 ∧ t 0 2 ≠ 0) := by omega
  rcases hcs with q1 | ⟨q1, q2⟩ | ⟨q1, q2⟩
  · rw [if_pos q1] at z1
    have ht : 0 < t 0 2 := by rcases Nat.eq_zero_or_pos (t 0 2) with q | q; have := hU q; omega; exact q
    have HL := liA_2m (N := N) (B := B) (n := n) hls ht (by omega)
    refine j_aload_n dX13_readLane_13 rfl rfl ?_
    refine j_iconst (v := nI 0) dX13_readLane_14 (by decide) ?_
    refine cV13_254 (d1 := 10) rfl dX13_readLane_15 (by decide) (Nat.le_of_ble_eq_true rfl) ?_
    refine m_readKnown (s := 1) (x := .inl (5, tA B n p)) hX hM hY hRd (hB.f F1) (hN.f hM F1) hN2 (by decide) z1 (fun v2 m2 l2 f2 z2 g2 => ?_)
    have z2 : MZ m2 l2 B n (.inl (5, tA B n p)) := z2
    have F2 := F1.tr f2
    refine j_istore_n (lv2 := [_, _, _, _]) dX13_readLane_18 rfl (by decide) rfl rfl ?_
    refine j_aload_n dX13_readLane_19 rfl rfl ?_
    refine j_iconst (v := nI 0) dX13_readLane_20 (by decide) ?_
    refine cV13_187 (d1 := 9) rfl dX13_readLane_21 (by decide) (Nat.le_of_ble_eq_true rfl) ?_
    refine m_knownOne (s := 1) (x := .inl (5, tA B n p)) hX hM hY hRd (hB.f F2) (hN.f hM F2) hN2 (by decide) z2 (fun v3 m3 l3 f3 z3 g3 => ?_)
    have z3 : MZ m3 l3 B n (.inl (5, tA B n p)) := z3
    have F3 := F2.tr f3
    refine j_istore_n (lv2 := [_, _, _, _]) dX13_readLane_24 rfl (by decide) rfl rfl ?_
    refine j_aload_n dX13_readLane_25 rfl rfl ?_
    refine gI13_79 rfl dX13_readLane_26 ?_
    rw [z3.1]
    refine j_iconst (v := nI 5) dX13_readLane_29 (by decide) ?_
    refine j_icmp_eq (tgt := 60) dX13_readLane_30 (by decide) (fun h30 => ?_) (fun h30 => absurd (by decide) h30)
    refine j_aload_n dX13_readLane_60 rfl rfl ?_
    refine cV13_118 (d1 := 2) rfl dX13_readLane_61 (by decide) (Nat.le_of_ble_eq_true rfl) ?_
    refine m_goesX (x := .inl (5, tA B n p)) hX (hB.f F3) z3 (fun q h => by cases h) (fun m4 l4 f4 z4 => ?_)
    have z4 : MZ m4 l4 B n (.inl (5, tA B n p)) := z4
    have F4 := F3.tr f4
    refine j_aload_n dX13_readLane_64 rfl rfl ?_
    refine j_ldcS13_260 dX13_readLane_65 ?_
    refine j_iconst (v := nI 1) dX13_readLane_68 (by decide) ?_
    refine j_bipush (v := nI 60) dX13_readLane_69 (by decide) ?_
    refine cV13_225 (d1 := 9) rfl dX13_readLane_71 (by decide) (Nat.le_of_ble_eq_true rfl) ?_
    refine m_readPart (i := 11) (lo := 1) (hi := 60) (x := .inl (5, tA B n p)) hX (hB.f F4) (by decide) (by decide) (by decide) z4 (fun v5 m5 l5 f5 z5 g5 => ?_)
    have z5 : MZ m5 l5 B n (.inl (5, tA B n p)) := z5
    have F5 := F4.tr f5
    refine j_istore_n (lv2 := [_, _, _, _]) dX13_readLane_74 rfl (by decide) rfl rfl ?_
    refine j_aload_n dX13_readLane_75 rfl rfl ?_
    refine gI13_79 rfl dX13_readLane_76 ?_
    rw [z5.1]
    refine j_iconst (v := nI 5) dX13_readLane_79 (by decide) ?_
    refine j_icmp_ne (tgt := 84) dX13_readLane_80 (by decide) (fun h80 => absurd (by decide) h80) (fun h80 => ?_)
    refine j_vret rfl dX13_readLane_83 ?_
    exact hp m5 l5 (F5.fm M) (fun e9 he9 => by rw [HL] at he9; cases he9; exact z5) (fun s9 hs9 => by rw [HL] at hs9; cases hs9)
  · rw [if_neg q1, if_pos q2] at z1
    have HL := liA_n (N := N) (B := B) (n := n) (p := p) (t := t) (by omega) (by omega) (by omega)
    refine j_aload_n dX13_readLane_13 rfl rfl ?_
    refine j_iconst (v := nI 0) dX13_readLane_14 (by decide) ?_
    refine cV13_254 (d1 := 10) rfl dX13_readLane_15 (by decide) (Nat.le_of_ble_eq_true rfl) ?_
    refine m_readKnown (s := 1) (x := .inl (6, tA B n p)) hX hM hY hRd (hB.f F1) (hN.f hM F1) hN2 (by decide) z1 (fun v6 m6 l6 f6 z6 g6 => ?_)
    have z6 : MZ m6 l6 B n (.inl (6, tA B n p)) := z6
    have F6 := F1.tr f6
    refine j_istore_n (lv2 := [_, _, _, _]) dX13_readLane_18 rfl (by decide) rfl rfl ?_
    refine j_aload_n dX13_readLane_19 rfl rfl ?_
    refine j_iconst (v := nI 0) dX13_readLane_20 (by decide) ?_
    refine cV13_187 (d1 := 9) rfl dX13_readLane_21 (by decide) (Nat.le_of_ble_eq_true rfl) ?_
    refine m_knownOne (s := 1) (x := .inl (6, tA B n p)) hX hM hY hRd (hB.f F6) (hN.f hM F6) hN2 (by decide) z6 (fun v7 m7 l7 f7 z7 g7 => ?_)
    have z7 : MZ m7 l7 B n (.inl (6, tA B n p)) := z7
    have F7 := F6.tr f7
    refine j_istore_n (lv2 := [_, _, _, _]) dX13_readLane_24 rfl (by decide) rfl rfl ?_
    refine j_aload_n dX13_readLane_25 rfl rfl ?_
    refine gI13_79 rfl dX13_readLane_26 ?_
    rw [z7.1]
    refine j_iconst (v := nI 5) dX13_readLane_29 (by decide) ?_
    refine j_icmp_eq (tgt := 60) dX13_readLane_30 (by decide) (fun h30 => ?_) (fun h30 => absurd (by decide) h30)
    refine j_aload_n dX13_readLane_60 rfl rfl ?_
    refine cV13_118 (d1 := 2) rfl dX13_readLane_61 (by decide) (Nat.le_of_ble_eq_true rfl) ?_
    refine m_goesX (x := .inl (6, tA B n p)) hX (hB.f F7) z7 (fun q h => by cases h) (fun m8 l8 f8 z8 => ?_)
    have z8 : MZ m8 l8 B n (.inl (6, tA B n p)) := z8
    have F8 := F7.tr f8
    refine j_aload_n dX13_readLane_64 rfl rfl ?_
    refine j_ldcS13_260 dX13_readLane_65 ?_
    refine j_iconst (v := nI 1) dX13_readLane_68 (by decide) ?_
    refine j_bipush (v := nI 60) dX13_readLane_69 (by decide) ?_
    refine cV13_225 (d1 := 9) rfl dX13_readLane_71 (by decide) (Nat.le_of_ble_eq_true rfl) ?_
    refine m_readPart (i := 11) (lo := 1) (hi := 60) (x := .inl (6, tA B n p)) hX (hB.f F8) (by decide) (by decide) (by decide) z8 (fun v9 m9 l9 f9 z9 g9 => ?_)
    have z9 : MZ m9 l9 B n (.inl (6, tA B n p)) := z9
    have F9 := F8.tr f9
    refine j_istore_n (lv2 := [_, _, _, _]) dX13_readLane_74 rfl (by decide) rfl rfl ?_
    refine j_aload_n dX13_readLane_75 rfl rfl ?_
    refine gI13_79 rfl dX13_readLane_76 ?_
    rw [z9.1]
    refine j_iconst (v := nI 5) dX13_readLane_79 (by decide) ?_
    refine j_icmp_ne (tgt := 84) dX13_readLane_80 (by decide) (fun h80 => absurd (by decide) h80) (fun h80 => ?_)
    refine j_vret rfl dX13_readLane_83 ?_
    exact hp m9 l9 (F9.fm M) (fun e9 he9 => by rw [HL] at he9; cases he9; exact z9) (fun s9 hs9 => by rw [HL] at hs9; cases hs9)
  · rw [if_neg q1, if_neg q2] at z1
    have ht : 0 < t 0 2 := by omega
    have hc : t 0 4 < 9 := by omega
    refine j_aload_n dX13_readLane_13 rfl rfl ?_
    refine j_iconst (v := nI 0) dX13_readLane_14 (by decide) ?_
    refine cV13_254 (d1 := 10) rfl dX13_readLane_15 (by decide) (Nat.le_of_ble_eq_true rfl) ?_
    refine m_readKnown (s := 1) (x := .inr (tE B n p)) hX hM hY hRd (hB.f F1) (hN.f hM F1) hN2 (by decide) z1 (fun v10 m10 l10 f10 z10 g10 => ?_)
    have F10 := F1.tr f10
    have z10 : MZ m10 l10 B n (es (fun _ => tE B n (tE B n p)) (fN B n N 1 (tE B n p))) := z10
    rcases s10 : fN B n N 1 (tE B n p) with e10 | q10
    · rw [s10] at z10
      have z10 : MZ m10 l10 B n (.inl e10) := z10
      have HL : liA B n (p, N, t) = .inl e10 := by rw [liA_2 hls ht hc]; simp only [liL, s10, eb_r, eb_l]
      refine j_istore_n (lv2 := [_, _, _, _]) dX13_readLane_18 rfl (by decide) rfl rfl ?_
      refine j_aload_n dX13_readLane_19 rfl rfl ?_
      refine j_iconst (v := nI 0) dX13_readLane_20 (by decide) ?_
      refine cV13_187 (d1 := 9) rfl dX13_readLane_21 (by decide) (Nat.le_of_ble_eq_true rfl) ?_
      refine m_knownOne (s := 1) (x := .inl e10) hX hM hY hRd (hB.f F10) (hN.f hM F10) hN2 (by decide) z10 (fun v11 m11 l11 f11 z11 g11 => ?_)
      have z11 : MZ m11 l11 B n (.inl e10) := z11
      have F11 := F10.tr f11
      refine j_istore_n (lv2 := [_, _, _, _]) dX13_readLane_24 rfl (by decide) rfl rfl ?_
      refine j_aload_n dX13_readLane_25 rfl rfl ?_
      refine gI13_79 rfl dX13_readLane_26 ?_
      rw [z11.1]
      refine j_iconst (v := nI 5) dX13_readLane_29 (by decide) ?_
      refine j_icmp_eq (tgt := 60) dX13_readLane_30 (by decide) (fun h30 => ?_) (fun h30 => absurd (by decide) h30)
      refine j_aload_n dX13_readLane_60 rfl rfl ?_
      refine cV13_118 (d1 := 2) rfl dX13_readLane_61 (by decide) (Nat.le_of_ble_eq_true rfl) ?_
      refine m_goesX (x := .inl e10) hX (hB.f F11) z11 (fun q h => by cases h) (fun m12 l12 f12 z12 => ?_)
      have z12 : MZ m12 l12 B n (.inl e10) := z12
      have F12 := F11.tr f12
      refine j_aload_n dX13_readLane_64 rfl rfl ?_
      refine j_ldcS13_260 dX13_readLane_65 ?_
      refine j_iconst (v := nI 1) dX13_readLane_68 (by decide) ?_
      refine j_bipush (v := nI 60) dX13_readLane_69 (by decide) ?_
      refine cV13_225 (d1 := 9) rfl dX13_readLane_71 (by decide) (Nat.le_of_ble_eq_true rfl) ?_
      refine m_readPart (i := 11) (lo := 1) (hi := 60) (x := .inl e10) hX (hB.f F12) (by decide) (by decide) (by decide) z12 (fun v13 m13 l13 f13 z13 g13 => ?_)
      have z13 : MZ m13 l13 B n (.inl e10) := z13
      have F13 := F12.tr f13
      refine j_istore_n (lv2 := [_, _, _, _]) dX13_readLane_74 rfl (by decide) rfl rfl ?_
      refine j_aload_n dX13_readLane_75 rfl rfl ?_
      refine gI13_79 rfl dX13_readLane_76 ?_
      rw [z13.1]
      refine j_iconst (v := nI 5) dX13_readLane_79 (by decide) ?_
      refine j_icmp_ne (tgt := 84) dX13_readLane_80 (by decide) (fun h80 => absurd (by decide) h80) (fun h80 => ?_)
      refine j_vret rfl dX13_readLane_83 ?_
      exact hp m13 l13 (F13.fm M) (fun e9 he9 => by rw [HL] at he9; cases he9; exact z13) (fun s9 hs9 => by rw [HL] at hs9; cases hs9)
    · rw [s10] at z10
      have z10 : MZ m10 l10 B n (.inr (tE B n (tE B n p))) := z10
      have w10 : v10 = nI q10 := g10 _ q10 rfl s10
      subst w10
      have b10 := fN_lt hJ s10
      simp only [true_implies, Nat.reduceEqDiff, false_implies, and_true, true_and] at b10
      refine j_istore_n (lv2 := [_, _, _, _]) dX13_readLane_18 rfl (by decide) rfl rfl ?_
      refine j_aload_n dX13_readLane_19 rfl rfl ?_
      refine j_iconst (v := nI 0) dX13_readLane_20 (by decide) ?_
      refine cV13_187 (d1 := 9) rfl dX13_readLane_21 (by decide) (Nat.le_of_ble_eq_true rfl) ?_
      refine m_knownOne (s := 1) (x := .inr (tE B n (tE B n p))) hX hM hY hRd (hB.f F10) (hN.f hM F10) hN2 (by decide) z10 (fun v14 m14 l14 f14 z14 g14 => ?_)
      have F14 := F10.tr f14
      have z14 : MZ m14 l14 B n (es (fun _ => tE B n (tE B n p)) (fN B n N 1 (tE B n (tE B n p)))) := z14
      rcases s14 : fN B n N 1 (tE B n (tE B n p)) with e14 | q14
      · rw [s14] at z14
        have z14 : MZ m14 l14 B n (.inl e14) := z14
        have HL : liA B n (p, N, t) = .inl e14 := by rw [liA_2 hls ht hc]; simp only [liL, s10, s14, eb_r, eb_l]
        refine j_istore_n (lv2 := [_, _, _, _]) dX13_readLane_24 rfl (by decide) rfl rfl ?_
        refine j_aload_n dX13_readLane_25 rfl rfl ?_
        refine gI13_79 rfl dX13_readLane_26 ?_
        rw [z14.1]
        refine j_iconst (v := nI 5) dX13_readLane_29 (by decide) ?_
        refine j_icmp_eq (tgt := 60) dX13_readLane_30 (by decide) (fun h30 => ?_) (fun h30 => absurd (by decide) h30)
        refine j_aload_n dX13_readLane_60 rfl rfl ?_
        refine cV13_118 (d1 := 2) rfl dX13_readLane_61 (by decide) (Nat.le_of_ble_eq_true rfl) ?_
        refine m_goesX (x := .inl e14) hX (hB.f F14) z14 (fun q h => by cases h) (fun m15 l15 f15 z15 => ?_)
        have z15 : MZ m15 l15 B n (.inl e14) := z15
        have F15 := F14.tr f15
        refine j_aload_n dX13_readLane_64 rfl rfl ?_
        refine j_ldcS13_260 dX13_readLane_65 ?_
        refine j_iconst (v := nI 1) dX13_readLane_68 (by decide) ?_
        refine j_bipush (v := nI 60) dX13_readLane_69 (by decide) ?_
        refine cV13_225 (d1 := 9) rfl dX13_readLane_71 (by decide) (Nat.le_of_ble_eq_true rfl) ?_
        refine m_readPart (i := 11) (lo := 1) (hi := 60) (x := .inl e14) hX (hB.f F15) (by decide) (by decide) (by decide) z15 (fun v16 m16 l16 f16 z16 g16 => ?_)
        have z16 : MZ m16 l16 B n (.inl e14) := z16
        have F16 := F15.tr f16
        refine j_istore_n (lv2 := [_, _, _, _]) dX13_readLane_74 rfl (by decide) rfl rfl ?_
        refine j_aload_n dX13_readLane_75 rfl rfl ?_
        refine gI13_79 rfl dX13_readLane_76 ?_
        rw [z16.1]
        refine j_iconst (v := nI 5) dX13_readLane_79 (by decide) ?_
        refine j_icmp_ne (tgt := 84) dX13_readLane_80 (by decide) (fun h80 => absurd (by decide) h80) (fun h80 => ?_)
        refine j_vret rfl dX13_readLane_83 ?_
        exact hp m16 l16 (F16.fm M) (fun e9 he9 => by rw [HL] at he9; cases he9; exact z16) (fun s9 hs9 => by rw [HL] at hs9; cases hs9)
      · rw [s14] at z14
        have z14 : MZ m14 l14 B n (.inr (tE B n (tE B n p))) := z14
        have w14 : v14 = nI q14 := g14 _ q14 rfl s14
        subst w14
        have b14 := fN_lt hJ s14
        simp only [true_implies, Nat.reduceEqDiff, false_implies, and_true, true_and] at b14
        refine j_istore_n (lv2 := [_, _, _, _]) dX13_readLane_24 rfl (by decide) rfl rfl ?_
        refine j_aload_n dX13_readLane_25 rfl rfl ?_
        refine gI13_79 rfl dX13_readLane_26 ?_
        rw [z14.2.1.2.1]
        refine j_iconst (v := nI 5) dX13_readLane_29 (by decide) ?_
        refine j_icmp_eq (tgt := 60) dX13_readLane_30 (by decide) (fun h30 => by exfalso; have h6 := sM_le (tS_le B n (tE B n (tE B n p))); rw [nI_eq (by omega) (by decide)] at h30; omega) (fun h30 => ?_)
        refine j_iload_n dX13_readLane_33 rfl rfl ?_
        refine j_iload_n dX13_readLane_34 rfl rfl ?_
        refine j_icmp_eq (tgt := 55) dX13_readLane_35 (by decide) (fun h35 => ?_) (fun h35 => ?_)
        all_goals rw [nI_eq (by have := b10; omega) (by have := b14; omega)] at h35
        · refine j_aload_n dX13_readLane_55 rfl rfl ?_
          refine j_iconst (v := nI 3) dX13_readLane_56 (by decide) ?_
          refine cV13_125 (d1 := 1) rfl dX13_readLane_57 (by decide) (Nat.le_of_ble_eq_true rfl) ?_
          refine m_flawN (k := 3) z14 (fun m17 f17 z17 => ?_)
          have F17 := F14.tr f17
          have e55 : q14 = q10 ∨ 0 < t 2 (6 * q10 + q14) := by omega
          have HL : liA B n (p, N, t) = .inl (3, tA B n (tE B n (tE B n p))) := by rw [liA_2 hls ht hc]; simp only [liL, s10, s14, if_pos e55, eb_r, eb_l]
          refine j_aload_n dX13_readLane_60 rfl rfl ?_
          refine cV13_118 (d1 := 2) rfl dX13_readLane_61 (by decide) (Nat.le_of_ble_eq_true rfl) ?_
          refine m_goesX (x := .inl (3, tA B n (tE B n (tE B n p)))) hX (hB.f F17) z17 (fun q h => by cases h) (fun m18 l18 f18 z18 => ?_)
          have z18 : MZ m18 l18 B n (.inl (3, tA B n (tE B n (tE B n p)))) := z18
          have F18 := F17.tr f18
          refine j_aload_n dX13_readLane_64 rfl rfl ?_
          refine j_ldcS13_260 dX13_readLane_65 ?_
          refine j_iconst (v := nI 1) dX13_readLane_68 (by decide) ?_
          refine j_bipush (v := nI 60) dX13_readLane_69 (by decide) ?_
          refine cV13_225 (d1 := 9) rfl dX13_readLane_71 (by decide) (Nat.le_of_ble_eq_true rfl) ?_
          refine m_readPart (i := 11) (lo := 1) (hi := 60) (x := .inl (3, tA B n (tE B n (tE B n p)))) hX (hB.f F18) (by decide) (by decide) (by decide) z18 (fun v19 m19 l19 f19 z19 g19 => ?_)
          have z19 : MZ m19 l19 B n (.inl (3, tA B n (tE B n (tE B n p)))) := z19
          have F19 := F18.tr f19
          refine j_istore_n (lv2 := [_, _, _, _]) dX13_readLane_74 rfl (by decide) rfl rfl ?_
          refine j_aload_n dX13_readLane_75 rfl rfl ?_
          refine gI13_79 rfl dX13_readLane_76 ?_
          rw [z19.1]
          refine j_iconst (v := nI 5) dX13_readLane_79 (by decide) ?_
          refine j_icmp_ne (tgt := 84) dX13_readLane_80 (by decide) (fun h80 => absurd (by decide) h80) (fun h80 => ?_)
          refine j_vret rfl dX13_readLane_83 ?_
          exact hp m19 l19 (F19.fm M) (fun e9 he9 => by rw [HL] at he9; cases he9; exact z19) (fun s9 hs9 => by rw [HL] at hs9; cases hs9)
        · refine j_aload_n dX13_readLane_38 rfl rfl ?_
          refine gR13_157 rfl dX13_readLane_39 hRd ?_
          refine gR13_257 (kM0 hM) dX13_readLane_42 (xM2 hY) ?_
          refine j_bipush (v := nI 6) dX13_readLane_45 (by decide) ?_
          refine j_iload_n dX13_readLane_47 rfl rfl ?_
          refine j_imul dX13_readLane_48 ?_
          rw [pk_mul]
          refine j_iload_n dX13_readLane_49 rfl rfl ?_
          refine j_iadd dX13_readLane_50 ?_
          rw [nI_add]
          refine j_iald (kM2 hM) (inT (lM2 hM) (by have := b10; have := b14; show (6 * q10) + q14 < 36; omega) (by decide)) dX13_readLane_51 ?_
          rw [nI_clamp (by have := b10; have := b14; omega), rM2 (hR.f hM F14) (by have := b10; have := b14; show (6 * q10) + q14 < 36; omega)]
          refine j_if_le (tgt := 60) dX13_readLane_52 (by decide) (fun h52 => ?_) (fun h52 => ?_)
          all_goals rw [show (0 : Int32) = nI 0 from rfl, nI_leI (by have := hg 2 ((6 * q10) + q14); omega) (by decide)] at h52
          · have e60 : ¬ (q14 = q10 ∨ 0 < t 2 (6 * q10 + q14)) := by omega
            refine j_aload_n dX13_readLane_60 rfl rfl ?_
            refine cV13_118 (d1 := 2) rfl dX13_readLane_61 (by decide) (Nat.le_of_ble_eq_true rfl) ?_
            refine m_goesX (x := .inr (tE B n (tE B n p))) hX (hB.f F14) z14 (fun q h => by cases h; have := fN_t s14; omega) (fun m20 l20 f20 z20 => ?_)
            have F20 := F14.tr f20
            have z20 : MZ m20 l20 B n (.inr (tE B n (tE B n (tE B n p)))) := z20
            refine j_aload_n dX13_readLane_64 rfl rfl ?_
            refine j_ldcS13_260 dX13_readLane_65 ?_
            refine j_iconst (v := nI 1) dX13_readLane_68 (by decide) ?_
            refine j_bipush (v := nI 60) dX13_readLane_69 (by decide) ?_
            refine cV13_225 (d1 := 9) rfl dX13_readLane_71 (by decide) (Nat.le_of_ble_eq_true rfl) ?_
            refine m_readPart (i := 11) (lo := 1) (hi := 60) (x := .inr (tE B n (tE B n (tE B n p)))) hX (hB.f F20) (by decide) (by decide) (by decide) z20 (fun v21 m21 l21 f21 z21 g21 => ?_)
            have F21 := F20.tr f21
            have z21 : MZ m21 l21 B n (es Prod.fst (eb (pW B n 11 (tE B n (tE B n (tE B n p)))) (pN B n 1 60))) := z21
            have g21 : ∀ q, eb (pW B n 11 (tE B n (tE B n (tE B n p)))) (pN B n 1 60) = .inr q → v21 = nI q.2 := g21
            have hst : (∃ e, pW B n 11 (tE B n (tE B n (tE B n p))) = .inl e) ∨ (∃ r e, pW B n 11 (tE B n (tE B n (tE B n p))) = .inr r ∧ pN B n 1 60 r = .inl e) ∨ ∃ r q, pW B n 11 (tE B n (tE B n (tE B n p))) = .inr r ∧ pN B n 1 60 r = .inr q := by
              cases s0 : pW B n 11 (tE B n (tE B n (tE B n p))) with
              | inl e => exact Or.inl ⟨e, rfl⟩
              | inr r =>
                cases u0 : pN B n 1 60 r with
                | inl e => exact Or.inr (Or.inl ⟨r, e, rfl, u0⟩)
                | inr q => exact Or.inr (Or.inr ⟨r, q, rfl, u0⟩)
            rcases hst with ⟨e21, s21⟩ | ⟨r21, e21, s21, u21⟩ | ⟨r21, q21, s21, u21⟩
            · rw [s21] at z21
              have z21 : MZ m21 l21 B n (.inl e21) := z21
              have HL : liA B n (p, N, t) = .inl e21 := by rw [liA_2 hls ht hc]; simp only [liL, s10, s14, s21, if_neg e60, eb_r, eb_l]
              refine j_istore_n (lv2 := [_, _, _, _]) dX13_readLane_74 rfl (by decide) rfl rfl ?_
              refine j_aload_n dX13_readLane_75 rfl rfl ?_
              refine gI13_79 rfl dX13_readLane_76 ?_
              rw [z21.1]
              refine j_iconst (v := nI 5) dX13_readLane_79 (by decide) ?_
              refine j_icmp_ne (tgt := 84) dX13_readLane_80 (by decide) (fun h80 => absurd (by decide) h80) (fun h80 => ?_)
              refine j_vret rfl dX13_readLane_83 ?_
              exact hp m21 l21 (F21.fm M) (fun e9 he9 => by rw [HL] at he9; cases he9; exact z21) (fun s9 hs9 => by rw [HL] at hs9; cases hs9)
            · rw [s21, eb_r, u21] at z21
              have z21 : MZ m21 l21 B n (.inl e21) := z21
              have HL : liA B n (p, N, t) = .inl e21 := by rw [liA_2 hls ht hc]; simp only [liL, s10, s14, s21, u21, if_neg e60, eb_r, eb_l]
              refine j_istore_n (lv2 := [_, _, _, _]) dX13_readLane_74 rfl (by decide) rfl rfl ?_
              refine j_aload_n dX13_readLane_75 rfl rfl ?_
              refine gI13_79 rfl dX13_readLane_76 ?_
              rw [z21.1]
              refine j_iconst (v := nI 5) dX13_readLane_79 (by decide) ?_
              refine j_icmp_ne (tgt := 84) dX13_readLane_80 (by decide) (fun h80 => absurd (by decide) h80) (fun h80 => ?_)
              refine j_vret rfl dX13_readLane_83 ?_
              exact hp m21 l21 (F21.fm M) (fun e9 he9 => by rw [HL] at he9; cases he9; exact z21) (fun s9 hs9 => by rw [HL] at hs9; cases hs9)
            · rw [s21, eb_r, u21] at z21
              have z21 : MZ m21 l21 B n (.inr q21.1) := z21
              have w21 : v21 = nI q21.2 := g21 q21 (by rw [s21, eb_r, u21])
              subst w21
              have b21 := pN_r u21
              refine j_istore_n (lv2 := [_, _, _, _]) dX13_readLane_74 rfl (by decide) rfl rfl ?_
              refine j_aload_n dX13_readLane_75 rfl rfl ?_
              refine gI13_79 rfl dX13_readLane_76 ?_
              rw [z21.2.1.2.1]
              refine j_iconst (v := nI 5) dX13_readLane_79 (by decide) ?_
              refine j_icmp_ne (tgt := 84) dX13_readLane_80 (by decide) (fun h80 => ?_) (fun h80 => by exfalso; have h6 := sM_le (tS_le B n (q21.1)); rw [nI_eq (by omega) (by decide)] at h80; omega)
              refine j_aload_n dX13_readLane_84 rfl rfl ?_
              refine gR13_157 rfl dX13_readLane_85 hRd ?_
              refine gR13_257 (kM0 hM) dX13_readLane_88 (xM2 hY) ?_
              refine j_bipush (v := nI 6) dX13_readLane_91 (by decide) ?_
              refine j_iload_n dX13_readLane_93 rfl rfl ?_
              refine j_imul dX13_readLane_94 ?_
              rw [pk_mul]
              refine j_iload_n dX13_readLane_95 rfl rfl ?_
              refine j_iadd dX13_readLane_96 ?_
              rw [nI_add]
              refine j_iload_n dX13_readLane_97 rfl rfl ?_
              refine j_iast (kM2 hM) (inT (lM2 hM) (by have := b10; have := b14; show (6 * q10) + q14 < 36; omega) (by decide)) dX13_readLane_98 ?_
              rw [nI_clamp (by have := b10; have := b14; omega)]
              have FF22 := (F21.fm M).pu hM (a := M + 2) (j := (6 * q10) + q14) (by omega) (nI (q21.2))
              have zz22 := z21.pu (a := M + 2) (j := (6 * q10) + q14) (by omega) (nI (q21.2))
              have rr22 := (hR.f hM F21).put (r := 2) (i := (6 * q10) + q14) (x := q21.2) (by decide) (by decide)
              have nn22 := (hN.f hM F21).pu (r := 2) (i := (6 * q10) + q14) (by decide) (fun q => absurd q (by decide)) (nI (q21.2))
              generalize up m21 (M + 2) ((6 * q10) + q14) (nI (q21.2)) = y22 at FF22 zz22 rr22 nn22 ⊢
              refine j_aload_n dX13_readLane_99 rfl rfl ?_
              refine gR13_157 rfl dX13_readLane_100 hRd ?_
              refine gR13_257 (kM0 hM) dX13_readLane_103 (xM2 hY) ?_
              refine j_bipush (v := nI 6) dX13_readLane_106 (by decide) ?_
              refine j_iload_n dX13_readLane_108 rfl rfl ?_
              refine j_imul dX13_readLane_109 ?_
              rw [pk_mul]
              refine j_iload_n dX13_readLane_110 rfl rfl ?_
              refine j_iadd dX13_readLane_111 ?_
              rw [nI_add]
              refine j_iload_n dX13_readLane_112 rfl rfl ?_
              refine j_iast (kM2 hM) (inT (lM2 hM) (by have := b10; have := b14; show (6 * q14) + q10 < 36; omega) (by decide)) dX13_readLane_113 ?_
              rw [nI_clamp (by have := b10; have := b14; omega)]
              have FF23 := FF22.pu hM (a := M + 2) (j := (6 * q14) + q10) (by omega) (nI (q21.2))
              have zz23 := zz22.pu (a := M + 2) (j := (6 * q14) + q10) (by omega) (nI (q21.2))
              have rr23 := rr22.put (r := 2) (i := (6 * q14) + q10) (x := q21.2) (by decide) (by decide)
              have nn23 := nn22.pu (r := 2) (i := (6 * q14) + q10) (by decide) (fun q => absurd q (by decide)) (nI (q21.2))
              generalize up y22 (M + 2) ((6 * q14) + q10) (nI (q21.2)) = y23 at FF23 zz23 rr23 nn23 ⊢
              refine j_aload_n dX13_readLane_114 rfl rfl ?_
              refine gR13_157 rfl dX13_readLane_115 hRd ?_
              refine j_dup dX13_readLane_118 rfl ?_
              refine gI13_251 (kM0 hM) dX13_readLane_119 ?_
              rw [show y23 M 4 = nI (t 0 4) from rr23.1 4 (by decide)]
              refine j_iconst (v := nI 1) dX13_readLane_122 (by decide) ?_
              refine j_iadd dX13_readLane_123 ?_
              rw [nI_add]
              refine pI13_251 (kM0 hM) dX13_readLane_124 ?_
              have FF24 := FF23.pu hM (a := M) (j := 4) (by omega) (nI ((t 0 4) + 1))
              have zz24 := zz23.pu (a := M) (j := 4) (by omega) (nI ((t 0 4) + 1))
              have rr24 := rr23.put0 (i := 4) (x := (t 0 4) + 1)
              have nn24 := nn23.pu (r := 0) (i := 4) (by decide) (fun _ => by decide) (nI ((t 0 4) + 1))
              rw [Nat.add_zero] at nn24
              generalize up y23 (M) (4) (nI ((t 0 4) + 1)) = y24 at FF24 zz24 rr24 nn24 ⊢
              refine j_vret rfl dX13_readLane_127 ?_
              have HL : liA B n (p, N, t) = .inr (q21.1, N, ut (ut (ut t 2 (6 * q10 + q14) q21.2) 2 (6 * q14 + q10) q21.2) 0 4 (t 0 4 + 1)) := by rw [liA_2 hls ht hc]; simp only [liL, s10, s14, s21, u21, if_neg e60, eb_r, eb_l]
              refine hp y24 l21 FF24 (fun e9 he9 => by rw [HL] at he9; cases he9) (fun s9 hs9 => ?_)
              rw [HL] at hs9
              cases hs9
              exact ⟨zz24, rr24, nn24⟩
          · refine j_aload_n dX13_readLane_55 rfl rfl ?_
            refine j_iconst (v := nI 3) dX13_readLane_56 (by decide) ?_
            refine cV13_125 (d1 := 1) rfl dX13_readLane_57 (by decide) (Nat.le_of_ble_eq_true rfl) ?_
            refine m_flawN (k := 3) z14 (fun m25 f25 z25 => ?_)
            have F25 := F14.tr f25
            have e55 : q14 = q10 ∨ 0 < t 2 (6 * q10 + q14) := by omega
            have HL : liA B n (p, N, t) = .inl (3, tA B n (tE B n (tE B n p))) := by rw [liA_2 hls ht hc]; simp only [liL, s10, s14, if_pos e55, eb_r, eb_l]
            refine j_aload_n dX13_readLane_60 rfl rfl ?_
            refine cV13_118 (d1 := 2) rfl dX13_readLane_61 (by decide) (Nat.le_of_ble_eq_true rfl) ?_
            refine m_goesX (x := .inl (3, tA B n (tE B n (tE B n p)))) hX (hB.f F25) z25 (fun q h => by cases h) (fun m26 l26 f26 z26 => ?_)
            have z26 : MZ m26 l26 B n (.inl (3, tA B n (tE B n (tE B n p)))) := z26
            have F26 := F25.tr f26
            refine j_aload_n dX13_readLane_64 rfl rfl ?_
            refine j_ldcS13_260 dX13_readLane_65 ?_
            refine j_iconst (v := nI 1) dX13_readLane_68 (by decide) ?_
            refine j_bipush (v := nI 60) dX13_readLane_69 (by decide) ?_
            refine cV13_225 (d1 := 9) rfl dX13_readLane_71 (by decide) (Nat.le_of_ble_eq_true rfl) ?_
            refine m_readPart (i := 11) (lo := 1) (hi := 60) (x := .inl (3, tA B n (tE B n (tE B n p)))) hX (hB.f F26) (by decide) (by decide) (by decide) z26 (fun v27 m27 l27 f27 z27 g27 => ?_)
            have z27 : MZ m27 l27 B n (.inl (3, tA B n (tE B n (tE B n p)))) := z27
            have F27 := F26.tr f27
            refine j_istore_n (lv2 := [_, _, _, _]) dX13_readLane_74 rfl (by decide) rfl rfl ?_
            refine j_aload_n dX13_readLane_75 rfl rfl ?_
            refine gI13_79 rfl dX13_readLane_76 ?_
            rw [z27.1]
            refine j_iconst (v := nI 5) dX13_readLane_79 (by decide) ?_
            refine j_icmp_ne (tgt := 84) dX13_readLane_80 (by decide) (fun h80 => absurd (by decide) h80) (fun h80 => ?_)
            refine j_vret rfl dX13_readLane_83 ?_
            exact hp m27 l27 (F27.fm M) (fun e9 he9 => by rw [HL] at he9; cases he9; exact z27) (fun s9 hs9 => by rw [HL] at hs9; cases hs9)
theorem m_readTown (hX : XM mr) (hM : MM M) (hY : XT mr M) (hRd : mr 1000 4 = some M) (hB : RBM mi B n) (hg : GB t) (hW : WT t) (hI : NI N t) (hU : t 0 2 = 0 → t 0 3 = 0 ∧ t 0 4 = 0 ∧ t 0 5 = 0 ∧ t 0 6 = 0 ∧ t 0 7 = 0 ∧ t 0 8 = 0) (hR : RM mi M t) (hN : RNM mi ml M N) (hz : MZ mi ml B n (.inr p)) (h1 : tS B n p = 1) (hls : lsN B n p = 0) (hp : hML post B n M mi ml mr dom (liA B n (p, N, t))) : CT G 11 0 0 yX13_readTown cX13_readTown 4 none [.ref 1000] mi ml mr dom post := by
  have w := hW.1
  have hge := hM.ge
  have hJ := hI.nj
  have hN2 := fun k hk => (hI.2.2 k hk).2.2
  have hsum := hI.2.1
  refine enter 3 (by decide) rfl rfl (fun X => ?_)
  refine j_aload_n dX13_readTown_0 rfl rfl ?_
  refine gR13_157 rfl dX13_readTown_1 hRd ?_
  refine gI13_161 (kM0 hM) dX13_readTown_4 ?_
  rw [hR.1 2 (by decide)]
  refine j_if_le (tgt := 15) dX13_readTown_7 (by decide) (fun h7 => ?_) (fun h7 => ?_)
  all_goals rw [show (0 : Int32) = nI 0 from rfl, nI_leI (by have := hg 0 2; omega) (by decide)] at h7
  · have ht : ¬ 0 < t 0 2 := by omega
    refine j_aload_n dX13_readTown_15 rfl rfl ?_
    refine cV13_118 (d1 := 2) rfl dX13_readTown_16 (by decide) (Nat.le_of_ble_eq_true rfl) ?_
    refine m_goesX (x := .inr p) hX (hB.f (FG.rfl' mi ml)) hz (fun q h => by cases h; omega) (fun m1 l1 f1 z1 => ?_)
    have F1 := (FG.rfl' mi ml).tr f1
    have z1 : MZ m1 l1 B n (.inr (tE B n (p))) := z1
    refine j_aload_n dX13_readTown_19 rfl rfl ?_
    refine j_ldcS13_223 dX13_readTown_20 ?_
    refine j_iconst (v := nI 4) dX13_readTown_22 (by decide) ?_
    refine j_bipush (v := nI 11) dX13_readTown_23 (by decide) ?_
    refine cV13_225 (d1 := 9) rfl dX13_readTown_25 (by decide) (Nat.le_of_ble_eq_true rfl) ?_
    refine m_readPart (i := 7) (lo := 4) (hi := 11) (x := .inr (tE B n (p))) hX (hB.f F1) (by decide) (by decide) (by decide) z1 (fun v2 m2 l2 f2 z2 g2 => ?_)
    have F2 := F1.tr f2
    have z2 : MZ m2 l2 B n (es Prod.fst (eb (pW B n 7 (tE B n (p))) (pN B n 4 11))) := z2
    have g2 : ∀ q, eb (pW B n 7 (tE B n (p))) (pN B n 4 11) = .inr q → v2 = nI q.2 := g2
    have hst : (∃ e, pW B n 7 (tE B n (p)) = .inl e) ∨ (∃ r e, pW B n 7 (tE B n (p)) = .inr r ∧ pN B n 4 11 r = .inl e) ∨ ∃ r q, pW B n 7 (tE B n (p)) = .inr r ∧ pN B n 4 11 r = .inr q := by
      cases s0 : pW B n 7 (tE B n (p)) with
      | inl e => exact Or.inl ⟨e, rfl⟩
      | inr r =>
        cases u0 : pN B n 4 11 r with
        | inl e => exact Or.inr (Or.inl ⟨r, e, rfl, u0⟩)
        | inr q => exact Or.inr (Or.inr ⟨r, q, rfl, u0⟩)
    rcases hst with ⟨e2, s2⟩ | ⟨r2, e2, s2, u2⟩ | ⟨r2, q2, s2, u2⟩
    · rw [s2] at z2
      have z2 : MZ m2 l2 B n (.inl e2) := z2
      have HL : liA B n (p, N, t) = .inl e2 := by rw [liA_0 hls ht]; simp only [liT, s2, eb_r, eb_l]
      refine j_istore_n (lv2 := [_, _, _, _]) dX13_readTown_28 rfl (by decide) rfl rfl ?_
      refine j_aload_n dX13_readTown_29 rfl rfl ?_
      refine j_ldcS13_229 dX13_readTown_30 ?_
      refine j_bipush (v := nI 12) dX13_readTown_32 (by decide) ?_
      refine j_bipush (v := nI 22) dX13_readTown_34 (by decide) ?_
      refine cV13_225 (d1 := 9) rfl dX13_readTown_36 (by decide) (Nat.le_of_ble_eq_true rfl) ?_
      refine m_readPart (i := 8) (lo := 12) (hi := 22) (x := .inl e2) hX (hB.f F2) (by decide) (by decide) (by decide) z2 (fun v3 m3 l3 f3 z3 g3 => ?_)
      have z3 : MZ m3 l3 B n (.inl e2) := z3
      have F3 := F2.tr f3
      refine j_istore_n (lv2 := [_, _, _, _]) dX13_readTown_39 rfl (by decide) rfl rfl ?_
      refine j_aload_n dX13_readTown_40 rfl rfl ?_
      refine j_ldcS13_231 dX13_readTown_41 ?_
      refine j_bipush (v := nI 60) dX13_readTown_43 (by decide) ?_
      refine j_bipush (v := nI 120) dX13_readTown_45 (by decide) ?_
      refine cV13_225 (d1 := 9) rfl dX13_readTown_47 (by decide) (Nat.le_of_ble_eq_true rfl) ?_
      refine m_readPart (i := 9) (lo := 60) (hi := 120) (x := .inl e2) hX (hB.f F3) (by decide) (by decide) (by decide) z3 (fun v4 m4 l4 f4 z4 g4 => ?_)
      have z4 : MZ m4 l4 B n (.inl e2) := z4
      have F4 := F3.tr f4
      refine j_istore_n (lv2 := [_, _, _, _]) dX13_readTown_50 rfl (by decide) rfl rfl ?_
      refine j_aload_n dX13_readTown_51 rfl rfl ?_
      refine gI13_79 rfl dX13_readTown_52 ?_
      rw [z4.1]
      refine j_iconst (v := nI 5) dX13_readTown_55 (by decide) ?_
      refine j_icmp_ne (tgt := 60) dX13_readTown_56 (by decide) (fun h56 => absurd (by decide) h56) (fun h56 => ?_)
      refine j_vret rfl dX13_readTown_59 ?_
      exact hp m4 l4 (F4.fm M) (fun e9 he9 => by rw [HL] at he9; cases he9; exact z4) (fun s9 hs9 => by rw [HL] at hs9; cases hs9)
    · rw [s2, eb_r, u2] at z2
      have z2 : MZ m2 l2 B n (.inl e2) := z2
      have HL : liA B n (p, N, t) = .inl e2 := by rw [liA_0 hls ht]; simp only [liT, s2, u2, eb_r, eb_l]
      refine j_istore_n (lv2 := [_, _, _, _]) dX13_readTown_28 rfl (by decide) rfl rfl ?_
      refine j_aload_n dX13_readTown_29 rfl rfl ?_
      refine j_ldcS13_229 dX13_readTown_30 ?_
      refine j_bipush (v := nI 12) dX13_readTown_32 (by decide) ?_
      refine j_bipush (v := nI 22) dX13_readTown_34 (by decide) ?_
      refine cV13_225 (d1 := 9) rfl dX13_readTown_36 (by decide) (Nat.le_of_ble_eq_true rfl) ?_
      refine m_readPart (i := 8) (lo := 12) (hi := 22) (x := .inl e2) hX (hB.f F2) (by decide) (by decide) (by decide) z2 (fun v5 m5 l5 f5 z5 g5 => ?_)
      have z5 : MZ m5 l5 B n (.inl e2) := z5
      have F5 := F2.tr f5
      refine j_istore_n (lv2 := [_, _, _, _]) dX13_readTown_39 rfl (by decide) rfl rfl ?_
      refine j_aload_n dX13_readTown_40 rfl rfl ?_
      refine j_ldcS13_231 dX13_readTown_41 ?_
      refine j_bipush (v := nI 60) dX13_readTown_43 (by decide) ?_
      refine j_bipush (v := nI 120) dX13_readTown_45 (by decide) ?_
      refine cV13_225 (d1 := 9) rfl dX13_readTown_47 (by decide) (Nat.le_of_ble_eq_true rfl) ?_
      refine m_readPart (i := 9) (lo := 60) (hi := 120) (x := .inl e2) hX (hB.f F5) (by decide) (by decide) (by decide) z5 (fun v6 m6 l6 f6 z6 g6 => ?_)
      have z6 : MZ m6 l6 B n (.inl e2) := z6
      have F6 := F5.tr f6
      refine j_istore_n (lv2 := [_, _, _, _]) dX13_readTown_50 rfl (by decide) rfl rfl ?_
      refine j_aload_n dX13_readTown_51 rfl rfl ?_
      refine gI13_79 rfl dX13_readTown_52 ?_
      rw [z6.1]
      refine j_iconst (v := nI 5) dX13_readTown_55 (by decide) ?_
      refine j_icmp_ne (tgt := 60) dX13_readTown_56 (by decide) (fun h56 => absurd (by decide) h56) (fun h56 => ?_)
      refine j_vret rfl dX13_readTown_59 ?_
      exact hp m6 l6 (F6.fm M) (fun e9 he9 => by rw [HL] at he9; cases he9; exact z6) (fun s9 hs9 => by rw [HL] at hs9; cases hs9)
    · rw [s2, eb_r, u2] at z2
      have z2 : MZ m2 l2 B n (.inr q2.1) := z2
      have w2 : v2 = nI q2.2 := g2 q2 (by rw [s2, eb_r, u2])
      subst w2
      have b2 := pN_r u2
      refine j_istore_n (lv2 := [_, _, _, _]) dX13_readTown_28 rfl (by decide) rfl rfl ?_
      refine j_aload_n dX13_readTown_29 rfl rfl ?_
      refine j_ldcS13_229 dX13_readTown_30 ?_
      refine j_bipush (v := nI 12) dX13_readTown_32 (by decide) ?_
      refine j_bipush (v := nI 22) dX13_readTown_34 (by decide) ?_
      refine cV13_225 (d1 := 9) rfl dX13_readTown_36 (by decide) (Nat.le_of_ble_eq_true rfl) ?_
      refine m_readPart (i := 8) (lo := 12) (hi := 22) (x := .inr q2.1) hX (hB.f F2) (by decide) (by decide) (by decide) z2 (fun v7 m7 l7 f7 z7 g7 => ?_)
      have F7 := F2.tr f7
      have z7 : MZ m7 l7 B n (es Prod.fst (eb (pW B n 8 (q2.1)) (pN B n 12 22))) := z7
      have g7 : ∀ q, eb (pW B n 8 (q2.1)) (pN B n 12 22) = .inr q → v7 = nI q.2 := g7
      have hst : (∃ e, pW B n 8 (q2.1) = .inl e) ∨ (∃ r e, pW B n 8 (q2.1) = .inr r ∧ pN B n 12 22 r = .inl e) ∨ ∃ r q, pW B n 8 (q2.1) = .inr r ∧ pN B n 12 22 r = .inr q := by
        cases s0 : pW B n 8 (q2.1) with
        | inl e => exact Or.inl ⟨e, rfl⟩
        | inr r =>
          cases u0 : pN B n 12 22 r with
          | inl e => exact Or.inr (Or.inl ⟨r, e, rfl, u0⟩)
          | inr q => exact Or.inr (Or.inr ⟨r, q, rfl, u0⟩)
      rcases hst with ⟨e7, s7⟩ | ⟨r7, e7, s7, u7⟩ | ⟨r7, q7, s7, u7⟩
      · rw [s7] at z7
        have z7 : MZ m7 l7 B n (.inl e7) := z7
        have HL : liA B n (p, N, t) = .inl e7 := by rw [liA_0 hls ht]; simp only [liT, s2, u2, s7, eb_r, eb_l]
        refine j_istore_n (lv2 := [_, _, _, _]) dX13_readTown_39 rfl (by decide) rfl rfl ?_
        refine j_aload_n dX13_readTown_40 rfl rfl ?_
        refine j_ldcS13_231 dX13_readTown_41 ?_
        refine j_bipush (v := nI 60) dX13_readTown_43 (by decide) ?_
        refine j_bipush (v := nI 120) dX13_readTown_45 (by decide) ?_
        refine cV13_225 (d1 := 9) rfl dX13_readTown_47 (by decide) (Nat.le_of_ble_eq_true rfl) ?_
        refine m_readPart (i := 9) (lo := 60) (hi := 120) (x := .inl e7) hX (hB.f F7) (by decide) (by decide) (by decide) z7 (fun v8 m8 l8 f8 z8 g8 => ?_)
        have z8 : MZ m8 l8 B n (.inl e7) := z8
        have F8 := F7.tr f8
        refine j_istore_n (lv2 := [_, _, _, _]) dX13_readTown_50 rfl (by decide) rfl rfl ?_
        refine j_aload_n dX13_readTown_51 rfl rfl ?_
        refine gI13_79 rfl dX13_readTown_52 ?_
        rw [z8.1]
        refine j_iconst (v := nI 5) dX13_readTown_55 (by decide) ?_
        refine j_icmp_ne (tgt := 60) dX13_readTown_56 (by decide) (fun h56 => absurd (by decide) h56) (fun h56 => ?_)
        refine j_vret rfl dX13_readTown_59 ?_
        exact hp m8 l8 (F8.fm M) (fun e9 he9 => by rw [HL] at he9; cases he9; exact z8) (fun s9 hs9 => by rw [HL] at hs9; cases hs9)
      · rw [s7, eb_r, u7] at z7
        have z7 : MZ m7 l7 B n (.inl e7) := z7
        have HL : liA B n (p, N, t) = .inl e7 := by rw [liA_0 hls ht]; simp only [liT, s2, u2, s7, u7, eb_r, eb_l]
        refine j_istore_n (lv2 := [_, _, _, _]) dX13_readTown_39 rfl (by decide) rfl rfl ?_
        refine j_aload_n dX13_readTown_40 rfl rfl ?_
        refine j_ldcS13_231 dX13_readTown_41 ?_
        refine j_bipush (v := nI 60) dX13_readTown_43 (by decide) ?_
        refine j_bipush (v := nI 120) dX13_readTown_45 (by decide) ?_
        refine cV13_225 (d1 := 9) rfl dX13_readTown_47 (by decide) (Nat.le_of_ble_eq_true rfl) ?_
        refine m_readPart (i := 9) (lo := 60) (hi := 120) (x := .inl e7) hX (hB.f F7) (by decide) (by decide) (by decide) z7 (fun v9 m9 l9 f9 z9 g9 => ?_)
        have z9 : MZ m9 l9 B n (.inl e7) := z9
        have F9 := F7.tr f9
        refine j_istore_n (lv2 := [_, _, _, _]) dX13_readTown_50 rfl (by decide) rfl rfl ?_
        refine j_aload_n dX13_readTown_51 rfl rfl ?_
        refine gI13_79 rfl dX13_readTown_52 ?_
        rw [z9.1]
        refine j_iconst (v := nI 5) dX13_readTown_55 (by decide) ?_
        refine j_icmp_ne (tgt := 60) dX13_readTown_56 (by decide) (fun h56 => absurd (by decide) h56) (fun h56 => ?_)
        refine j_vret rfl dX13_readTown_59 ?_
        exact hp m9 l9 (F9.fm M) (fun e9 he9 => by rw [HL] at he9; cases he9; exact z9) (fun s9 hs9 => by rw [HL] at hs9; cases hs9)
      · rw [s7, eb_r, u7] at z7
        have z7 : MZ m7 l7 B n (.inr q7.1) := z7
        have w7 : v7 = nI q7.2 := g7 q7 (by rw [s7, eb_r, u7])
        subst w7
        have b7 := pN_r u7
        refine j_istore_n (lv2 := [_, _, _, _]) dX13_readTown_39 rfl (by decide) rfl rfl ?_
        refine j_aload_n dX13_readTown_40 rfl rfl ?_
        refine j_ldcS13_231 dX13_readTown_41 ?_
        refine j_bipush (v := nI 60) dX13_readTown_43 (by decide) ?_
        refine j_bipush (v := nI 120) dX13_readTown_45 (by decide) ?_
        refine cV13_225 (d1 := 9) rfl dX13_readTown_47 (by decide) (Nat.le_of_ble_eq_true rfl) ?_
        refine m_readPart (i := 9) (lo := 60) (hi := 120) (x := .inr q7.1) hX (hB.f F7) (by decide) (by decide) (by decide) z7 (fun v10 m10 l10 f10 z10 g10 => ?_)
        have F10 := F7.tr f10
        have z10 : MZ m10 l10 B n (es Prod.fst (eb (pW B n 9 (q7.1)) (pN B n 60 120))) := z10
        have g10 : ∀ q, eb (pW B n 9 (q7.1)) (pN B n 60 120) = .inr q → v10 = nI q.2 := g10
        have hst : (∃ e, pW B n 9 (q7.1) = .inl e) ∨ (∃ r e, pW B n 9 (q7.1) = .inr r ∧ pN B n 60 120 r = .inl e) ∨ ∃ r q, pW B n 9 (q7.1) = .inr r ∧ pN B n 60 120 r = .inr q := by
          cases s0 : pW B n 9 (q7.1) with
          | inl e => exact Or.inl ⟨e, rfl⟩
          | inr r =>
            cases u0 : pN B n 60 120 r with
            | inl e => exact Or.inr (Or.inl ⟨r, e, rfl, u0⟩)
            | inr q => exact Or.inr (Or.inr ⟨r, q, rfl, u0⟩)
        rcases hst with ⟨e10, s10⟩ | ⟨r10, e10, s10, u10⟩ | ⟨r10, q10, s10, u10⟩
        · rw [s10] at z10
          have z10 : MZ m10 l10 B n (.inl e10) := z10
          have HL : liA B n (p, N, t) = .inl e10 := by rw [liA_0 hls ht]; simp only [liT, s2, u2, s7, u7, s10, eb_r, eb_l]
          refine j_istore_n (lv2 := [_, _, _, _]) dX13_readTown_50 rfl (by decide) rfl rfl ?_
          refine j_aload_n dX13_readTown_51 rfl rfl ?_
          refine gI13_79 rfl dX13_readTown_52 ?_
          rw [z10.1]
          refine j_iconst (v := nI 5) dX13_readTown_55 (by decide) ?_
          refine j_icmp_ne (tgt := 60) dX13_readTown_56 (by decide) (fun h56 => absurd (by decide) h56) (fun h56 => ?_)
          refine j_vret rfl dX13_readTown_59 ?_
          exact hp m10 l10 (F10.fm M) (fun e9 he9 => by rw [HL] at he9; cases he9; exact z10) (fun s9 hs9 => by rw [HL] at hs9; cases hs9)
        · rw [s10, eb_r, u10] at z10
          have z10 : MZ m10 l10 B n (.inl e10) := z10
          have HL : liA B n (p, N, t) = .inl e10 := by rw [liA_0 hls ht]; simp only [liT, s2, u2, s7, u7, s10, u10, eb_r, eb_l]
          refine j_istore_n (lv2 := [_, _, _, _]) dX13_readTown_50 rfl (by decide) rfl rfl ?_
          refine j_aload_n dX13_readTown_51 rfl rfl ?_
          refine gI13_79 rfl dX13_readTown_52 ?_
          rw [z10.1]
          refine j_iconst (v := nI 5) dX13_readTown_55 (by decide) ?_
          refine j_icmp_ne (tgt := 60) dX13_readTown_56 (by decide) (fun h56 => absurd (by decide) h56) (fun h56 => ?_)
          refine j_vret rfl dX13_readTown_59 ?_
          exact hp m10 l10 (F10.fm M) (fun e9 he9 => by rw [HL] at he9; cases he9; exact z10) (fun s9 hs9 => by rw [HL] at hs9; cases hs9)
        · rw [s10, eb_r, u10] at z10
          have z10 : MZ m10 l10 B n (.inr q10.1) := z10
          have w10 : v10 = nI q10.2 := g10 q10 (by rw [s10, eb_r, u10])
          subst w10
          have b10 := pN_r u10
          refine j_istore_n (lv2 := [_, _, _, _]) dX13_readTown_50 rfl (by decide) rfl rfl ?_
          refine j_aload_n dX13_readTown_51 rfl rfl ?_
          refine gI13_79 rfl dX13_readTown_52 ?_
          rw [z10.2.1.2.1]
          refine j_iconst (v := nI 5) dX13_readTown_55 (by decide) ?_
          refine j_icmp_ne (tgt := 60) dX13_readTown_56 (by decide) (fun h56 => ?_) (fun h56 => by exfalso; have h6 := sM_le (tS_le B n (q10.1)); rw [nI_eq (by omega) (by decide)] at h56; omega)
          refine j_aload_n dX13_readTown_60 rfl rfl ?_
          refine gR13_157 rfl dX13_readTown_61 hRd ?_
          refine j_iload_n dX13_readTown_64 rfl rfl ?_
          refine pI13_232 (kM0 hM) dX13_readTown_65 ?_
          have FF11 := (F10.fm M).pu hM (a := M) (j := 0) (by omega) (nI (q2.2))
          have zz11 := z10.pu (a := M) (j := 0) (by omega) (nI (q2.2))
          have rr11 := (hR.f hM F10).put0 (i := 0) (x := q2.2)
          have nn11 := (hN.f hM F10).pu (r := 0) (i := 0) (by decide) (fun _ => by decide) (nI (q2.2))
          rw [Nat.add_zero] at nn11
          generalize up m10 (M) (0) (nI (q2.2)) = y11 at FF11 zz11 rr11 nn11 ⊢
          refine j_aload_n dX13_readTown_68 rfl rfl ?_
          refine gR13_157 rfl dX13_readTown_69 hRd ?_
          refine j_iload_n dX13_readTown_72 rfl rfl ?_
          refine pI13_234 (kM0 hM) dX13_readTown_73 ?_
          have FF12 := FF11.pu hM (a := M) (j := 1) (by omega) (nI (q7.2))
          have zz12 := zz11.pu (a := M) (j := 1) (by omega) (nI (q7.2))
          have rr12 := rr11.put0 (i := 1) (x := q7.2)
          have nn12 := nn11.pu (r := 0) (i := 1) (by decide) (fun _ => by decide) (nI (q7.2))
          rw [Nat.add_zero] at nn12
          generalize up y11 (M) (1) (nI (q7.2)) = y12 at FF12 zz12 rr12 nn12 ⊢
          refine j_aload_n dX13_readTown_76 rfl rfl ?_
          refine gR13_157 rfl dX13_readTown_77 hRd ?_
          refine j_iload_n dX13_readTown_80 rfl rfl ?_
          refine pI13_161 (kM0 hM) dX13_readTown_81 ?_
          have FF13 := FF12.pu hM (a := M) (j := 2) (by omega) (nI (q10.2))
          have zz13 := zz12.pu (a := M) (j := 2) (by omega) (nI (q10.2))
          have rr13 := rr12.put0 (i := 2) (x := q10.2)
          have nn13 := nn12.pu (r := 0) (i := 2) (by decide) (fun _ => by decide) (nI (q10.2))
          rw [Nat.add_zero] at nn13
          generalize up y12 (M) (2) (nI (q10.2)) = y13 at FF13 zz13 rr13 nn13 ⊢
          refine j_vret rfl dX13_readTown_84 ?_
          have HL : liA B n (p, N, t) = .inr (q10.1, N, ut (ut (ut t 0 0 q2.2) 0 1 q7.2) 0 2 q10.2) := by rw [liA_0 hls ht]; simp only [liT, s2, u2, s7, u7, s10, u10, eb_r, eb_l]
          refine hp y13 l10 FF13 (fun e9 he9 => by rw [HL] at he9; cases he9) (fun s9 hs9 => ?_)
          rw [HL] at hs9
          cases hs9
          exact ⟨zz13, rr13, nn13⟩
  · refine j_aload_n dX13_readTown_10 rfl rfl ?_
    refine j_iconst (v := nI 3) dX13_readTown_11 (by decide) ?_
    refine cV13_125 (d1 := 1) rfl dX13_readTown_12 (by decide) (Nat.le_of_ble_eq_true rfl) ?_
    refine m_flawN (k := 3) hz (fun m14 f14 z14 => ?_)
    have F14 := (FG.rfl' mi ml).tr f14
    have HL := liA_0t (N := N) (B := B) (n := n) hls (show 0 < t 0 2 by omega)
    refine j_aload_n dX13_readTown_15 rfl rfl ?_
    refine cV13_118 (d1 := 2) rfl dX13_readTown_16 (by decide) (Nat.le_of_ble_eq_true rfl) ?_
    refine m_goesX (x := .inl (3, tA B n (p))) hX (hB.f F14) z14 (fun q h => by cases h) (fun m15 l15 f15 z15 => ?_)
    have z15 : MZ m15 l15 B n (.inl (3, tA B n (p))) := z15
    have F15 := F14.tr f15
    refine j_aload_n dX13_readTown_19 rfl rfl ?_
    refine j_ldcS13_223 dX13_readTown_20 ?_
    refine j_iconst (v := nI 4) dX13_readTown_22 (by decide) ?_
    refine j_bipush (v := nI 11) dX13_readTown_23 (by decide) ?_
    refine cV13_225 (d1 := 9) rfl dX13_readTown_25 (by decide) (Nat.le_of_ble_eq_true rfl) ?_
    refine m_readPart (i := 7) (lo := 4) (hi := 11) (x := .inl (3, tA B n (p))) hX (hB.f F15) (by decide) (by decide) (by decide) z15 (fun v16 m16 l16 f16 z16 g16 => ?_)
    have z16 : MZ m16 l16 B n (.inl (3, tA B n (p))) := z16
    have F16 := F15.tr f16
    refine j_istore_n (lv2 := [_, _, _, _]) dX13_readTown_28 rfl (by decide) rfl rfl ?_
    refine j_aload_n dX13_readTown_29 rfl rfl ?_
    refine j_ldcS13_229 dX13_readTown_30 ?_
    refine j_bipush (v := nI 12) dX13_readTown_32 (by decide) ?_
    refine j_bipush (v := nI 22) dX13_readTown_34 (by decide) ?_
    refine cV13_225 (d1 := 9) rfl dX13_readTown_36 (by decide) (Nat.le_of_ble_eq_true rfl) ?_
    refine m_readPart (i := 8) (lo := 12) (hi := 22) (x := .inl (3, tA B n (p))) hX (hB.f F16) (by decide) (by decide) (by decide) z16 (fun v17 m17 l17 f17 z17 g17 => ?_)
    have z17 : MZ m17 l17 B n (.inl (3, tA B n (p))) := z17
    have F17 := F16.tr f17
    refine j_istore_n (lv2 := [_, _, _, _]) dX13_readTown_39 rfl (by decide) rfl rfl ?_
    refine j_aload_n dX13_readTown_40 rfl rfl ?_
    refine j_ldcS13_231 dX13_readTown_41 ?_
    refine j_bipush (v := nI 60) dX13_readTown_43 (by decide) ?_
    refine j_bipush (v := nI 120) dX13_readTown_45 (by decide) ?_
    refine cV13_225 (d1 := 9) rfl dX13_readTown_47 (by decide) (Nat.le_of_ble_eq_true rfl) ?_
    refine m_readPart (i := 9) (lo := 60) (hi := 120) (x := .inl (3, tA B n (p))) hX (hB.f F17) (by decide) (by decide) (by decide) z17 (fun v18 m18 l18 f18 z18 g18 => ?_)
    have z18 : MZ m18 l18 B n (.inl (3, tA B n (p))) := z18
    have F18 := F17.tr f18
    refine j_istore_n (lv2 := [_, _, _, _]) dX13_readTown_50 rfl (by decide) rfl rfl ?_
    refine j_aload_n dX13_readTown_51 rfl rfl ?_
    refine gI13_79 rfl dX13_readTown_52 ?_
    rw [z18.1]
    refine j_iconst (v := nI 5) dX13_readTown_55 (by decide) ?_
    refine j_icmp_ne (tgt := 60) dX13_readTown_56 (by decide) (fun h56 => absurd (by decide) h56) (fun h56 => ?_)
    refine j_vret rfl dX13_readTown_59 ?_
    exact hp m18 l18 (F18.fm M) (fun e9 he9 => by rw [HL] at he9; cases he9; exact z18) (fun s9 hs9 => by rw [HL] at hs9; cases hs9)
theorem m_readPerson (hX : XM mr) (hM : MM M) (hY : XT mr M) (hRd : mr 1000 4 = some M) (hB : RBM mi B n) (hg : GB t) (hW : WT t) (hI : NI N t) (hU : t 0 2 = 0 → t 0 3 = 0 ∧ t 0 4 = 0 ∧ t 0 5 = 0 ∧ t 0 6 = 0 ∧ t 0 7 = 0 ∧ t 0 8 = 0) (hR : RM mi M t) (hN : RNM mi ml M N) (hz : MZ mi ml B n (.inr p)) (h1 : tS B n p = 1) (hls : lsN B n p = 3) (hp : hML post B n M mi ml mr dom (liA B n (p, N, t))) : CT G 11 0 0 yX13_readPerson cX13_readPerson 10 none [.ref 1000] mi ml mr dom post := by
  have w := hW.1
  have hge := hM.ge
  have hJ := hI.nj
  have hN2 := fun k hk => (hI.2.2 k hk).2.2
  have hsum := hI.2.1
  refine enter 9 (by decide) rfl rfl (fun X => ?_)
  refine j_aload_n dX13_readPerson_0 rfl rfl ?_
  refine j_aload_n dX13_readPerson_1 rfl rfl ?_
  refine gR13_157 rfl dX13_readPerson_2 hRd ?_
  refine gI13_199 (kM0 hM) dX13_readPerson_5 ?_
  rw [hR.1 5 (by decide)]
  refine j_bipush (v := nI 6) dX13_readPerson_8 (by decide) ?_
  refine cV13_236 (d1 := 3) rfl dX13_readPerson_10 (by decide) (Nat.le_of_ble_eq_true rfl) ?_
  refine m_lineB hX hM hg hRd hB (by omega) (by decide) (hR.1 2 (by decide)) hz h1 (fun m1 l1 f1 z1 => ?_)
  have F1 := f1
  have hcs : t 0 5 = 6 ∨ (t 0 5 ≠ 6 ∧ t 0 2 = 0) ∨ (t 0 5 ≠ 6 ∧ t 0 2 ≠ 0) := by omega
  rcases hcs with q1 | ⟨q1, q2⟩ | ⟨q1, q2⟩
  · rw [if_pos q1] at z1
    have ht : 0 < t 0 2 := by rcases Nat.eq_zero_or_pos (t 0 2) with q | q; have := hU q; omega; exact q
    have HL := liA_3m (N := N) (B := B) (n := n) hls ht (by omega)
    refine j_aload_n dX13_readPerson_13 rfl rfl ?_
    refine cV13_240 (d1 := 9) rfl dX13_readPerson_14 (by decide) (Nat.le_of_ble_eq_true rfl) ?_
    refine m_readFresh (x := .inl (5, tA B n p)) hX hM hY hRd (hB.f F1) (hN.f hM F1) z1 (fun v2 m2 l2 f2 z2 g2 => ?_)
    have z2 : MZ m2 l2 B n (.inl (5, tA B n p)) := z2
    have F2 := F1.tr f2
    refine j_lstore_n (lv2 := [_, _, _, _, _, _, _, _, _, _]) dX13_readPerson_17 rfl (by decide) rfl rfl ?_
    refine j_aload_n dX13_readPerson_18 rfl rfl ?_
    refine j_ldcS13_261 dX13_readPerson_19 ?_
    refine cV13_121 (d1 := 7) rfl dX13_readPerson_22 (by decide) (Nat.le_of_ble_eq_true rfl) ?_
    refine m_isWordO (i := 12) z2.1 ?_
    refine j_if_eq (tgt := 32) dX13_readPerson_25 (by decide) (fun h25 => ?_) (fun h25 => absurd (by decide) h25)
    refine j_aload_n dX13_readPerson_32 rfl rfl ?_
    refine j_ldcS13_263 dX13_readPerson_33 ?_
    refine cV13_121 (d1 := 7) rfl dX13_readPerson_36 (by decide) (Nat.le_of_ble_eq_true rfl) ?_
    refine m_isWordO (i := 13) z2.1 ?_
    refine j_if_eq (tgt := 46) dX13_readPerson_39 (by decide) (fun h39 => ?_) (fun h39 => absurd (by decide) h39)
    refine j_aload_n dX13_readPerson_46 rfl rfl ?_
    refine j_ldcS13_265 dX13_readPerson_47 ?_
    refine cV13_121 (d1 := 7) rfl dX13_readPerson_50 (by decide) (Nat.le_of_ble_eq_true rfl) ?_
    refine m_isWordO (i := 14) z2.1 ?_
    refine j_if_eq (tgt := 60) dX13_readPerson_53 (by decide) (fun h53 => ?_) (fun h53 => absurd (by decide) h53)
    refine j_iconst (v := -1) dX13_readPerson_60 (by decide) ?_
    refine j_istore_n (lv2 := [_, _, _, _, _, _, _, _, _, _]) dX13_readPerson_61 rfl (by decide) rfl rfl ?_
    refine j_iload_n dX13_readPerson_62 rfl rfl ?_
    refine j_iconst (v := -1) dX13_readPerson_63 (by decide) ?_
    refine j_icmp_ne (tgt := 72) dX13_readPerson_64 (by decide) (fun h64 => absurd (by decide) h64) (fun h64 => ?_)
    refine j_aload_n dX13_readPerson_67 rfl rfl ?_
    refine j_iconst (v := nI 1) dX13_readPerson_68 (by decide) ?_
    refine cV13_125 (d1 := 1) rfl dX13_readPerson_69 (by decide) (Nat.le_of_ble_eq_true rfl) ?_
    refine m_flawO z2.1 ?_
    refine j_aload_n dX13_readPerson_72 rfl rfl ?_
    refine cV13_118 (d1 := 2) rfl dX13_readPerson_73 (by decide) (Nat.le_of_ble_eq_true rfl) ?_
    refine m_goesX (x := .inl (5, tA B n p)) hX (hB.f F2) z2 (fun q h => by cases h) (fun m3 l3 f3 z3 => ?_)
    have z3 : MZ m3 l3 B n (.inl (5, tA B n p)) := z3
    have F3 := F2.tr f3
    refine j_aload_n dX13_readPerson_76 rfl rfl ?_
    refine j_ldcS13_267 dX13_readPerson_77 ?_
    refine cV13_133 (d1 := 8) rfl dX13_readPerson_80 (by decide) (Nat.le_of_ble_eq_true rfl) ?_
    refine m_needs (i := 15) (x := .inl (5, tA B n p)) hX (hB.f F3) (by decide) z3 (fun m4 l4 f4 z4 => ?_)
    have z4 : MZ m4 l4 B n (.inl (5, tA B n p)) := z4
    have F4 := F3.tr f4
    refine j_aload_n dX13_readPerson_83 rfl rfl ?_
    refine j_iconst (v := nI 0) dX13_readPerson_84 (by decide) ?_
    refine cV13_254 (d1 := 10) rfl dX13_readPerson_85 (by decide) (Nat.le_of_ble_eq_true rfl) ?_
    refine m_readKnown (s := 1) (x := .inl (5, tA B n p)) hX hM hY hRd (hB.f F4) (hN.f hM F4) hN2 (by decide) z4 (fun v5 m5 l5 f5 z5 g5 => ?_)
    have z5 : MZ m5 l5 B n (.inl (5, tA B n p)) := z5
    have F5 := F4.tr f5
    refine j_istore (lv2 := [_, _, _, _, _, _, _, _, _, _]) dX13_readPerson_88 (by decide) rfl rfl ?_
    refine j_aload_n dX13_readPerson_90 rfl rfl ?_
    refine j_ldcS13_269 dX13_readPerson_91 ?_
    refine j_bipush (v := nI 20) dX13_readPerson_94 (by decide) ?_
    refine j_bipush (v := nI 99) dX13_readPerson_96 (by decide) ?_
    refine cV13_225 (d1 := 9) rfl dX13_readPerson_98 (by decide) (Nat.le_of_ble_eq_true rfl) ?_
    refine m_readPart (i := 16) (lo := 20) (hi := 99) (x := .inl (5, tA B n p)) hX (hB.f F5) (by decide) (by decide) (by decide) z5 (fun v6 m6 l6 f6 z6 g6 => ?_)
    have z6 : MZ m6 l6 B n (.inl (5, tA B n p)) := z6
    have F6 := F5.tr f6
    refine j_istore (lv2 := [_, _, _, _, _, _, _, _, _, _]) dX13_readPerson_101 (by decide) rfl rfl ?_
    refine j_aload_n dX13_readPerson_103 rfl rfl ?_
    refine j_ldcS13_271 dX13_readPerson_104 ?_
    refine cV13_133 (d1 := 8) rfl dX13_readPerson_107 (by decide) (Nat.le_of_ble_eq_true rfl) ?_
    refine m_needs (i := 17) (x := .inl (5, tA B n p)) hX (hB.f F6) (by decide) z6 (fun m7 l7 f7 z7 => ?_)
    have z7 : MZ m7 l7 B n (.inl (5, tA B n p)) := z7
    have F7 := F6.tr f7
    refine j_aload_n dX13_readPerson_110 rfl rfl ?_
    refine j_iconst (v := nI 3) dX13_readPerson_111 (by decide) ?_
    refine cV13_273 (d1 := 3) rfl dX13_readPerson_112 (by decide) (Nat.le_of_ble_eq_true rfl) ?_
    refine m_readLook3 (x := .inl (5, tA B n p)) hX (hB.f F7) z7 (fun v8 m8 l8 f8 z8 g8 => ?_)
    have z8 : MZ m8 l8 B n (.inl (5, tA B n p)) := z8
    have F8 := F7.tr f8
    refine j_istore (lv2 := [_, _, _, _, _, _, _, _, _, _]) dX13_readPerson_115 (by decide) rfl rfl ?_
    refine j_aload_n dX13_readPerson_117 rfl rfl ?_
    refine j_ldcS13_276 dX13_readPerson_118 ?_
    refine cV13_133 (d1 := 8) rfl dX13_readPerson_121 (by decide) (Nat.le_of_ble_eq_true rfl) ?_
    refine m_needs (i := 18) (x := .inl (5, tA B n p)) hX (hB.f F8) (by decide) z8 (fun m9 l9 f9 z9 => ?_)
    have z9 : MZ m9 l9 B n (.inl (5, tA B n p)) := z9
    have F9 := F8.tr f9
    refine j_aload_n dX13_readPerson_124 rfl rfl ?_
    refine j_iconst (v := nI 2) dX13_readPerson_125 (by decide) ?_
    refine cV13_273 (d1 := 3) rfl dX13_readPerson_126 (by decide) (Nat.le_of_ble_eq_true rfl) ?_
    refine m_readLook2 (x := .inl (5, tA B n p)) hX (hB.f F9) z9 (fun v10 m10 l10 f10 z10 g10 => ?_)
    have z10 : MZ m10 l10 B n (.inl (5, tA B n p)) := z10
    have F10 := F9.tr f10
    refine j_istore (lv2 := [_, _, _, _, _, _, _, _, _, _]) dX13_readPerson_129 (by decide) rfl rfl ?_
    refine j_aload_n dX13_readPerson_131 rfl rfl ?_
    refine gI13_79 rfl dX13_readPerson_132 ?_
    rw [z10.1]
    refine j_iconst (v := nI 5) dX13_readPerson_135 (by decide) ?_
    refine j_icmp_ne (tgt := 140) dX13_readPerson_136 (by decide) (fun h136 => absurd (by decide) h136) (fun h136 => ?_)
    refine j_vret rfl dX13_readPerson_139 ?_
    exact hp m10 l10 (F10.fm M) (fun e9 he9 => by rw [HL] at he9; cases he9; exact z10) (fun s9 hs9 => by rw [HL] at hs9; cases hs9)
  · rw [if_neg q1, if_pos q2] at z1
    have HL := liA_n (N := N) (B := B) (n := n) (p := p) (t := t) (by omega) (by omega) (by omega)
    refine j_aload_n dX13_readPerson_13 rfl rfl ?_
    refine cV13_240 (d1 := 9) rfl dX13_readPerson_14 (by decide) (Nat.le_of_ble_eq_true rfl) ?_
    refine m_readFresh (x := .inl (6, tA B n p)) hX hM hY hRd (hB.f F1) (hN.f hM F1) z1 (fun v11 m11 l11 f11 z11 g11 => ?_)
    have z11 : MZ m11 l11 B n (.inl (6, tA B n p)) := z11
    have F11 := F1.tr f11
    refine j_lstore_n (lv2 := [_, _, _, _, _, _, _, _, _, _]) dX13_readPerson_17 rfl (by decide) rfl rfl ?_
    refine j_aload_n dX13_readPerson_18 rfl rfl ?_
    refine j_ldcS13_261 dX13_readPerson_19 ?_
    refine cV13_121 (d1 := 7) rfl dX13_readPerson_22 (by decide) (Nat.le_of_ble_eq_true rfl) ?_
    refine m_isWordO (i := 12) z11.1 ?_
    refine j_if_eq (tgt := 32) dX13_readPerson_25 (by decide) (fun h25 => ?_) (fun h25 => absurd (by decide) h25)
    refine j_aload_n dX13_readPerson_32 rfl rfl ?_
    refine j_ldcS13_263 dX13_readPerson_33 ?_
    refine cV13_121 (d1 := 7) rfl dX13_readPerson_36 (by decide) (Nat.le_of_ble_eq_true rfl) ?_
    refine m_isWordO (i := 13) z11.1 ?_
    refine j_if_eq (tgt := 46) dX13_readPerson_39 (by decide) (fun h39 => ?_) (fun h39 => absurd (by decide) h39)
    refine j_aload_n dX13_readPerson_46 rfl rfl ?_
    refine j_ldcS13_265 dX13_readPerson_47 ?_
    refine cV13_121 (d1 := 7) rfl dX13_readPerson_50 (by decide) (Nat.le_of_ble_eq_true rfl) ?_
    refine m_isWordO (i := 14) z11.1 ?_
    refine j_if_eq (tgt := 60) dX13_readPerson_53 (by decide) (fun h53 => ?_) (fun h53 => absurd (by decide) h53)
    refine j_iconst (v := -1) dX13_readPerson_60 (by decide) ?_
    refine j_istore_n (lv2 := [_, _, _, _, _, _, _, _, _, _]) dX13_readPerson_61 rfl (by decide) rfl rfl ?_
    refine j_iload_n dX13_readPerson_62 rfl rfl ?_
    refine j_iconst (v := -1) dX13_readPerson_63 (by decide) ?_
    refine j_icmp_ne (tgt := 72) dX13_readPerson_64 (by decide) (fun h64 => absurd (by decide) h64) (fun h64 => ?_)
    refine j_aload_n dX13_readPerson_67 rfl rfl ?_
    refine j_iconst (v := nI 1) dX13_readPerson_68 (by decide) ?_
    refine cV13_125 (d1 := 1) rfl dX13_readPerson_69 (by decide) (Nat.le_of_ble_eq_true rfl) ?_
    refine m_flawO z11.1 ?_
    refine j_aload_n dX13_readPerson_72 rfl rfl ?_
    refine cV13_118 (d1 := 2) rfl dX13_readPerson_73 (by decide) (Nat.le_of_ble_eq_true rfl) ?_
    refine m_goesX (x := .inl (6, tA B n p)) hX (hB.f F11) z11 (fun q h => by cases h) (fun m12 l12 f12 z12 => ?_)
    have z12 : MZ m12 l12 B n (.inl (6, tA B n p)) := z12
    have F12 := F11.tr f12
    refine j_aload_n dX13_readPerson_76 rfl rfl ?_
    refine j_ldcS13_267 dX13_readPerson_77 ?_
    refine cV13_133 (d1 := 8) rfl dX13_readPerson_80 (by decide) (Nat.le_of_ble_eq_true rfl) ?_
    refine m_needs (i := 15) (x := .inl (6, tA B n p)) hX (hB.f F12) (by decide) z12 (fun m13 l13 f13 z13 => ?_)
    have z13 : MZ m13 l13 B n (.inl (6, tA B n p)) := z13
    have F13 := F12.tr f13
    refine j_aload_n dX13_readPerson_83 rfl rfl ?_
    refine j_iconst (v := nI 0) dX13_readPerson_84 (by decide) ?_
    refine cV13_254 (d1 := 10) rfl dX13_readPerson_85 (by decide) (Nat.le_of_ble_eq_true rfl) ?_
    refine m_readKnown (s := 1) (x := .inl (6, tA B n p)) hX hM hY hRd (hB.f F13) (hN.f hM F13) hN2 (by decide) z13 (fun v14 m14 l14 f14 z14 g14 => ?_)
    have z14 : MZ m14 l14 B n (.inl (6, tA B n p)) := z14
    have F14 := F13.tr f14
    refine j_istore (lv2 := [_, _, _, _, _, _, _, _, _, _]) dX13_readPerson_88 (by decide) rfl rfl ?_
    refine j_aload_n dX13_readPerson_90 rfl rfl ?_
    refine j_ldcS13_269 dX13_readPerson_91 ?_
    refine j_bipush (v := nI 20) dX13_readPerson_94 (by decide) ?_
    refine j_bipush (v := nI 99) dX13_readPerson_96 (by decide) ?_
    refine cV13_225 (d1 := 9) rfl dX13_readPerson_98 (by decide) (Nat.le_of_ble_eq_true rfl) ?_
    refine m_readPart (i := 16) (lo := 20) (hi := 99) (x := .inl (6, tA B n p)) hX (hB.f F14) (by decide) (by decide) (by decide) z14 (fun v15 m15 l15 f15 z15 g15 => ?_)
    have z15 : MZ m15 l15 B n (.inl (6, tA B n p)) := z15
    have F15 := F14.tr f15
    refine j_istore (lv2 := [_, _, _, _, _, _, _, _, _, _]) dX13_readPerson_101 (by decide) rfl rfl ?_
    refine j_aload_n dX13_readPerson_103 rfl rfl ?_
    refine j_ldcS13_271 dX13_readPerson_104 ?_
    refine cV13_133 (d1 := 8) rfl dX13_readPerson_107 (by decide) (Nat.le_of_ble_eq_true rfl) ?_
    refine m_needs (i := 17) (x := .inl (6, tA B n p)) hX (hB.f F15) (by decide) z15 (fun m16 l16 f16 z16 => ?_)
    have z16 : MZ m16 l16 B n (.inl (6, tA B n p)) := z16
    have F16 := F15.tr f16
    refine j_aload_n dX13_readPerson_110 rfl rfl ?_
    refine j_iconst (v := nI 3) dX13_readPerson_111 (by decide) ?_
    refine cV13_273 (d1 := 3) rfl dX13_readPerson_112 (by decide) (Nat.le_of_ble_eq_true rfl) ?_
    refine m_readLook3 (x := .inl (6, tA B n p)) hX (hB.f F16) z16 (fun v17 m17 l17 f17 z17 g17 => ?_)
    have z17 : MZ m17 l17 B n (.inl (6, tA B n p)) := z17
    have F17 := F16.tr f17
    refine j_istore (lv2 := [_, _, _, _, _, _, _, _, _, _]) dX13_readPerson_115 (by decide) rfl rfl ?_
    refine j_aload_n dX13_readPerson_117 rfl rfl ?_
    refine j_ldcS13_276 dX13_readPerson_118 ?_
    refine cV13_133 (d1 := 8) rfl dX13_readPerson_121 (by decide) (Nat.le_of_ble_eq_true rfl) ?_
    refine m_needs (i := 18) (x := .inl (6, tA B n p)) hX (hB.f F17) (by decide) z17 (fun m18 l18 f18 z18 => ?_)
    have z18 : MZ m18 l18 B n (.inl (6, tA B n p)) := z18
    have F18 := F17.tr f18
    refine j_aload_n dX13_readPerson_124 rfl rfl ?_
    refine j_iconst (v := nI 2) dX13_readPerson_125 (by decide) ?_
    refine cV13_273 (d1 := 3) rfl dX13_readPerson_126 (by decide) (Nat.le_of_ble_eq_true rfl) ?_
    refine m_readLook2 (x := .inl (6, tA B n p)) hX (hB.f F18) z18 (fun v19 m19 l19 f19 z19 g19 => ?_)
    have z19 : MZ m19 l19 B n (.inl (6, tA B n p)) := z19
    have F19 := F18.tr f19
    refine j_istore (lv2 := [_, _, _, _, _, _, _, _, _, _]) dX13_readPerson_129 (by decide) rfl rfl ?_
    refine j_aload_n dX13_readPerson_131 rfl rfl ?_
    refine gI13_79 rfl dX13_readPerson_132 ?_
    rw [z19.1]
    refine j_iconst (v := nI 5) dX13_readPerson_135 (by decide) ?_
    refine j_icmp_ne (tgt := 140) dX13_readPerson_136 (by decide) (fun h136 => absurd (by decide) h136) (fun h136 => ?_)
    refine j_vret rfl dX13_readPerson_139 ?_
    exact hp m19 l19 (F19.fm M) (fun e9 he9 => by rw [HL] at he9; cases he9; exact z19) (fun s9 hs9 => by rw [HL] at hs9; cases hs9)
  · rw [if_neg q1, if_neg q2] at z1
    have ht : 0 < t 0 2 := by omega
    have hc : t 0 5 < 6 := by omega
    have h17 : N.1 < 17 := by omega
    refine j_aload_n dX13_readPerson_13 rfl rfl ?_
    refine cV13_240 (d1 := 9) rfl dX13_readPerson_14 (by decide) (Nat.le_of_ble_eq_true rfl) ?_
    refine m_readFresh (x := .inr (tE B n p)) hX hM hY hRd (hB.f F1) (hN.f hM F1) z1 (fun v20 m20 l20 f20 z20 g20 => ?_)
    have F20 := F1.tr f20
    have fr20 := frN_nN (B := B) (n := n) (p := tE B n p) (N := N) (s := 3) (k := t 0 5) h17
    have z20 : MZ m20 l20 B n (frN B n N (tE B n p)) := z20
    rcases s20 : nN B n N 3 (t 0 5) (tE B n p) with e20 | q20
    · rw [fr20, s20] at z20
      have z20 : MZ m20 l20 B n (.inl e20) := z20
      have HL : liA B n (p, N, t) = .inl e20 := by rw [liA_3 hls ht hc]; simp only [liP, s20, eb_l]
      refine j_lstore_n (lv2 := [_, _, _, _, _, _, _, _, _, _]) dX13_readPerson_17 rfl (by decide) rfl rfl ?_
      refine j_aload_n dX13_readPerson_18 rfl rfl ?_
      refine j_ldcS13_261 dX13_readPerson_19 ?_
      refine cV13_121 (d1 := 7) rfl dX13_readPerson_22 (by decide) (Nat.le_of_ble_eq_true rfl) ?_
      refine m_isWordO (i := 12) z20.1 ?_
      refine j_if_eq (tgt := 32) dX13_readPerson_25 (by decide) (fun h25 => ?_) (fun h25 => absurd (by decide) h25)
      refine j_aload_n dX13_readPerson_32 rfl rfl ?_
      refine j_ldcS13_263 dX13_readPerson_33 ?_
      refine cV13_121 (d1 := 7) rfl dX13_readPerson_36 (by decide) (Nat.le_of_ble_eq_true rfl) ?_
      refine m_isWordO (i := 13) z20.1 ?_
      refine j_if_eq (tgt := 46) dX13_readPerson_39 (by decide) (fun h39 => ?_) (fun h39 => absurd (by decide) h39)
      refine j_aload_n dX13_readPerson_46 rfl rfl ?_
      refine j_ldcS13_265 dX13_readPerson_47 ?_
      refine cV13_121 (d1 := 7) rfl dX13_readPerson_50 (by decide) (Nat.le_of_ble_eq_true rfl) ?_
      refine m_isWordO (i := 14) z20.1 ?_
      refine j_if_eq (tgt := 60) dX13_readPerson_53 (by decide) (fun h53 => ?_) (fun h53 => absurd (by decide) h53)
      refine j_iconst (v := -1) dX13_readPerson_60 (by decide) ?_
      refine j_istore_n (lv2 := [_, _, _, _, _, _, _, _, _, _]) dX13_readPerson_61 rfl (by decide) rfl rfl ?_
      refine j_iload_n dX13_readPerson_62 rfl rfl ?_
      refine j_iconst (v := -1) dX13_readPerson_63 (by decide) ?_
      refine j_icmp_ne (tgt := 72) dX13_readPerson_64 (by decide) (fun h64 => absurd (by decide) h64) (fun h64 => ?_)
      refine j_aload_n dX13_readPerson_67 rfl rfl ?_
      refine j_iconst (v := nI 1) dX13_readPerson_68 (by decide) ?_
      refine cV13_125 (d1 := 1) rfl dX13_readPerson_69 (by decide) (Nat.le_of_ble_eq_true rfl) ?_
      refine m_flawO z20.1 ?_
      refine j_aload_n dX13_readPerson_72 rfl rfl ?_
      refine cV13_118 (d1 := 2) rfl dX13_readPerson_73 (by decide) (Nat.le_of_ble_eq_true rfl) ?_
      refine m_goesX (x := .inl e20) hX (hB.f F20) z20 (fun q h => by cases h) (fun m21 l21 f21 z21 => ?_)
      have z21 : MZ m21 l21 B n (.inl e20) := z21
      have F21 := F20.tr f21
      refine j_aload_n dX13_readPerson_76 rfl rfl ?_
      refine j_ldcS13_267 dX13_readPerson_77 ?_
      refine cV13_133 (d1 := 8) rfl dX13_readPerson_80 (by decide) (Nat.le_of_ble_eq_true rfl) ?_
      refine m_needs (i := 15) (x := .inl e20) hX (hB.f F21) (by decide) z21 (fun m22 l22 f22 z22 => ?_)
      have z22 : MZ m22 l22 B n (.inl e20) := z22
      have F22 := F21.tr f22
      refine j_aload_n dX13_readPerson_83 rfl rfl ?_
      refine j_iconst (v := nI 0) dX13_readPerson_84 (by decide) ?_
      refine cV13_254 (d1 := 10) rfl dX13_readPerson_85 (by decide) (Nat.le_of_ble_eq_true rfl) ?_
      refine m_readKnown (s := 1) (x := .inl e20) hX hM hY hRd (hB.f F22) (hN.f hM F22) hN2 (by decide) z22 (fun v23 m23 l23 f23 z23 g23 => ?_)
      have z23 : MZ m23 l23 B n (.inl e20) := z23
      have F23 := F22.tr f23
      refine j_istore (lv2 := [_, _, _, _, _, _, _, _, _, _]) dX13_readPerson_88 (by decide) rfl rfl ?_
      refine j_aload_n dX13_readPerson_90 rfl rfl ?_
      refine j_ldcS13_269 dX13_readPerson_91 ?_
      refine j_bipush (v := nI 20) dX13_readPerson_94 (by decide) ?_
      refine j_bipush (v := nI 99) dX13_readPerson_96 (by decide) ?_
      refine cV13_225 (d1 := 9) rfl dX13_readPerson_98 (by decide) (Nat.le_of_ble_eq_true rfl) ?_
      refine m_readPart (i := 16) (lo := 20) (hi := 99) (x := .inl e20) hX (hB.f F23) (by decide) (by decide) (by decide) z23 (fun v24 m24 l24 f24 z24 g24 => ?_)
      have z24 : MZ m24 l24 B n (.inl e20) := z24
      have F24 := F23.tr f24
      refine j_istore (lv2 := [_, _, _, _, _, _, _, _, _, _]) dX13_readPerson_101 (by decide) rfl rfl ?_
      refine j_aload_n dX13_readPerson_103 rfl rfl ?_
      refine j_ldcS13_271 dX13_readPerson_104 ?_
      refine cV13_133 (d1 := 8) rfl dX13_readPerson_107 (by decide) (Nat.le_of_ble_eq_true rfl) ?_
      refine m_needs (i := 17) (x := .inl e20) hX (hB.f F24) (by decide) z24 (fun m25 l25 f25 z25 => ?_)
      have z25 : MZ m25 l25 B n (.inl e20) := z25
      have F25 := F24.tr f25
      refine j_aload_n dX13_readPerson_110 rfl rfl ?_
      refine j_iconst (v := nI 3) dX13_readPerson_111 (by decide) ?_
      refine cV13_273 (d1 := 3) rfl dX13_readPerson_112 (by decide) (Nat.le_of_ble_eq_true rfl) ?_
      refine m_readLook3 (x := .inl e20) hX (hB.f F25) z25 (fun v26 m26 l26 f26 z26 g26 => ?_)
      have z26 : MZ m26 l26 B n (.inl e20) := z26
      have F26 := F25.tr f26
      refine j_istore (lv2 := [_, _, _, _, _, _, _, _, _, _]) dX13_readPerson_115 (by decide) rfl rfl ?_
      refine j_aload_n dX13_readPerson_117 rfl rfl ?_
      refine j_ldcS13_276 dX13_readPerson_118 ?_
      refine cV13_133 (d1 := 8) rfl dX13_readPerson_121 (by decide) (Nat.le_of_ble_eq_true rfl) ?_
      refine m_needs (i := 18) (x := .inl e20) hX (hB.f F26) (by decide) z26 (fun m27 l27 f27 z27 => ?_)
      have z27 : MZ m27 l27 B n (.inl e20) := z27
      have F27 := F26.tr f27
      refine j_aload_n dX13_readPerson_124 rfl rfl ?_
      refine j_iconst (v := nI 2) dX13_readPerson_125 (by decide) ?_
      refine cV13_273 (d1 := 3) rfl dX13_readPerson_126 (by decide) (Nat.le_of_ble_eq_true rfl) ?_
      refine m_readLook2 (x := .inl e20) hX (hB.f F27) z27 (fun v28 m28 l28 f28 z28 g28 => ?_)
      have z28 : MZ m28 l28 B n (.inl e20) := z28
      have F28 := F27.tr f28
      refine j_istore (lv2 := [_, _, _, _, _, _, _, _, _, _]) dX13_readPerson_129 (by decide) rfl rfl ?_
      refine j_aload_n dX13_readPerson_131 rfl rfl ?_
      refine gI13_79 rfl dX13_readPerson_132 ?_
      rw [z28.1]
      refine j_iconst (v := nI 5) dX13_readPerson_135 (by decide) ?_
      refine j_icmp_ne (tgt := 140) dX13_readPerson_136 (by decide) (fun h136 => absurd (by decide) h136) (fun h136 => ?_)
      refine j_vret rfl dX13_readPerson_139 ?_
      exact hp m28 l28 (F28.fm M) (fun e9 he9 => by rw [HL] at he9; cases he9; exact z28) (fun s9 hs9 => by rw [HL] at hs9; cases hs9)
    · have w20 : v20 = tH B n (tE B n p) := g20 _ q20.1 rfl (by rw [fr20, s20]; rfl)
      rw [fr20, s20] at z20
      have z20 : MZ m20 l20 B n (.inr q20.1) := z20
      have eq20 := (nN_r s20).1
      subst w20
      refine j_lstore_n (lv2 := [_, _, _, _, _, _, _, _, _, _]) dX13_readPerson_17 rfl (by decide) rfl rfl ?_
      refine j_aload_n dX13_readPerson_18 rfl rfl ?_
      refine j_ldcS13_261 dX13_readPerson_19 ?_
      refine cV13_121 (d1 := 7) rfl dX13_readPerson_22 (by decide) (Nat.le_of_ble_eq_true rfl) ?_
      refine m_isWord (i := 12) (by decide) z20 ?_
      refine j_if_eq (tgt := 32) dX13_readPerson_25 (by decide) (fun h25 => ?_) (fun h25 => ?_)
      all_goals rw [bN_eq0] at h25
      · refine j_aload_n dX13_readPerson_32 rfl rfl ?_
        refine j_ldcS13_263 dX13_readPerson_33 ?_
        refine cV13_121 (d1 := 7) rfl dX13_readPerson_36 (by decide) (Nat.le_of_ble_eq_true rfl) ?_
        refine m_isWord (i := 13) (by decide) z20 ?_
        refine j_if_eq (tgt := 46) dX13_readPerson_39 (by decide) (fun h39 => ?_) (fun h39 => ?_)
        all_goals rw [bN_eq0] at h39
        · refine j_aload_n dX13_readPerson_46 rfl rfl ?_
          refine j_ldcS13_265 dX13_readPerson_47 ?_
          refine cV13_121 (d1 := 7) rfl dX13_readPerson_50 (by decide) (Nat.le_of_ble_eq_true rfl) ?_
          refine m_isWord (i := 14) (by decide) z20 ?_
          refine j_if_eq (tgt := 60) dX13_readPerson_53 (by decide) (fun h53 => ?_) (fun h53 => ?_)
          all_goals rw [bN_eq0] at h53
          · refine j_iconst (v := -1) dX13_readPerson_60 (by decide) ?_
            refine j_istore_n (lv2 := [_, _, _, _, _, _, _, _, _, _]) dX13_readPerson_61 rfl (by decide) rfl rfl ?_
            refine j_iload_n dX13_readPerson_62 rfl rfl ?_
            refine j_iconst (v := -1) dX13_readPerson_63 (by decide) ?_
            refine j_icmp_ne (tgt := 72) dX13_readPerson_64 (by decide) (fun h64 => absurd (by decide) h64) (fun h64 => ?_)
            refine j_aload_n dX13_readPerson_67 rfl rfl ?_
            refine j_iconst (v := nI 1) dX13_readPerson_68 (by decide) ?_
            refine cV13_125 (d1 := 1) rfl dX13_readPerson_69 (by decide) (Nat.le_of_ble_eq_true rfl) ?_
            refine m_flawN (k := 1) z20 (fun m29 f29 z29 => ?_)
            have F29 := F20.tr f29
            have sK : pK B n (q20.1) = .inl (1, tA B n (q20.1)) := by
              rw [decide_eq_false_iff_not] at h25
              rw [decide_eq_false_iff_not] at h39
              rw [decide_eq_false_iff_not] at h53
              unfold pK; rw [if_neg h25, if_neg h39, if_neg h53]
            have HL : liA B n (p, N, t) = .inl (1, tA B n (q20.1)) := by rw [liA_3 hls ht hc]; simp only [liP, s20, sK, eb_r, eb_l]
            refine j_aload_n dX13_readPerson_72 rfl rfl ?_
            refine cV13_118 (d1 := 2) rfl dX13_readPerson_73 (by decide) (Nat.le_of_ble_eq_true rfl) ?_
            refine m_goesX (x := .inl (1, tA B n (q20.1))) hX (hB.f F29) z29 (fun q h => by cases h) (fun m30 l30 f30 z30 => ?_)
            have z30 : MZ m30 l30 B n (.inl (1, tA B n (q20.1))) := z30
            have F30 := F29.tr f30
            refine j_aload_n dX13_readPerson_76 rfl rfl ?_
            refine j_ldcS13_267 dX13_readPerson_77 ?_
            refine cV13_133 (d1 := 8) rfl dX13_readPerson_80 (by decide) (Nat.le_of_ble_eq_true rfl) ?_
            refine m_needs (i := 15) (x := .inl (1, tA B n (q20.1))) hX (hB.f F30) (by decide) z30 (fun m31 l31 f31 z31 => ?_)
            have z31 : MZ m31 l31 B n (.inl (1, tA B n (q20.1))) := z31
            have F31 := F30.tr f31
            refine j_aload_n dX13_readPerson_83 rfl rfl ?_
            refine j_iconst (v := nI 0) dX13_readPerson_84 (by decide) ?_
            refine cV13_254 (d1 := 10) rfl dX13_readPerson_85 (by decide) (Nat.le_of_ble_eq_true rfl) ?_
            refine m_readKnown (s := 1) (x := .inl (1, tA B n (q20.1))) hX hM hY hRd (hB.f F31) (hN.f hM F31) hN2 (by decide) z31 (fun v32 m32 l32 f32 z32 g32 => ?_)
            have z32 : MZ m32 l32 B n (.inl (1, tA B n (q20.1))) := z32
            have F32 := F31.tr f32
            refine j_istore (lv2 := [_, _, _, _, _, _, _, _, _, _]) dX13_readPerson_88 (by decide) rfl rfl ?_
            refine j_aload_n dX13_readPerson_90 rfl rfl ?_
            refine j_ldcS13_269 dX13_readPerson_91 ?_
            refine j_bipush (v := nI 20) dX13_readPerson_94 (by decide) ?_
            refine j_bipush (v := nI 99) dX13_readPerson_96 (by decide) ?_
            refine cV13_225 (d1 := 9) rfl dX13_readPerson_98 (by decide) (Nat.le_of_ble_eq_true rfl) ?_
            refine m_readPart (i := 16) (lo := 20) (hi := 99) (x := .inl (1, tA B n (q20.1))) hX (hB.f F32) (by decide) (by decide) (by decide) z32 (fun v33 m33 l33 f33 z33 g33 => ?_)
            have z33 : MZ m33 l33 B n (.inl (1, tA B n (q20.1))) := z33
            have F33 := F32.tr f33
            refine j_istore (lv2 := [_, _, _, _, _, _, _, _, _, _]) dX13_readPerson_101 (by decide) rfl rfl ?_
            refine j_aload_n dX13_readPerson_103 rfl rfl ?_
            refine j_ldcS13_271 dX13_readPerson_104 ?_
            refine cV13_133 (d1 := 8) rfl dX13_readPerson_107 (by decide) (Nat.le_of_ble_eq_true rfl) ?_
            refine m_needs (i := 17) (x := .inl (1, tA B n (q20.1))) hX (hB.f F33) (by decide) z33 (fun m34 l34 f34 z34 => ?_)
            have z34 : MZ m34 l34 B n (.inl (1, tA B n (q20.1))) := z34
            have F34 := F33.tr f34
            refine j_aload_n dX13_readPerson_110 rfl rfl ?_
            refine j_iconst (v := nI 3) dX13_readPerson_111 (by decide) ?_
            refine cV13_273 (d1 := 3) rfl dX13_readPerson_112 (by decide) (Nat.le_of_ble_eq_true rfl) ?_
            refine m_readLook3 (x := .inl (1, tA B n (q20.1))) hX (hB.f F34) z34 (fun v35 m35 l35 f35 z35 g35 => ?_)
            have z35 : MZ m35 l35 B n (.inl (1, tA B n (q20.1))) := z35
            have F35 := F34.tr f35
            refine j_istore (lv2 := [_, _, _, _, _, _, _, _, _, _]) dX13_readPerson_115 (by decide) rfl rfl ?_
            refine j_aload_n dX13_readPerson_117 rfl rfl ?_
            refine j_ldcS13_276 dX13_readPerson_118 ?_
            refine cV13_133 (d1 := 8) rfl dX13_readPerson_121 (by decide) (Nat.le_of_ble_eq_true rfl) ?_
            refine m_needs (i := 18) (x := .inl (1, tA B n (q20.1))) hX (hB.f F35) (by decide) z35 (fun m36 l36 f36 z36 => ?_)
            have z36 : MZ m36 l36 B n (.inl (1, tA B n (q20.1))) := z36
            have F36 := F35.tr f36
            refine j_aload_n dX13_readPerson_124 rfl rfl ?_
            refine j_iconst (v := nI 2) dX13_readPerson_125 (by decide) ?_
            refine cV13_273 (d1 := 3) rfl dX13_readPerson_126 (by decide) (Nat.le_of_ble_eq_true rfl) ?_
            refine m_readLook2 (x := .inl (1, tA B n (q20.1))) hX (hB.f F36) z36 (fun v37 m37 l37 f37 z37 g37 => ?_)
            have z37 : MZ m37 l37 B n (.inl (1, tA B n (q20.1))) := z37
            have F37 := F36.tr f37
            refine j_istore (lv2 := [_, _, _, _, _, _, _, _, _, _]) dX13_readPerson_129 (by decide) rfl rfl ?_
            refine j_aload_n dX13_readPerson_131 rfl rfl ?_
            refine gI13_79 rfl dX13_readPerson_132 ?_
            rw [z37.1]
            refine j_iconst (v := nI 5) dX13_readPerson_135 (by decide) ?_
            refine j_icmp_ne (tgt := 140) dX13_readPerson_136 (by decide) (fun h136 => absurd (by decide) h136) (fun h136 => ?_)
            refine j_vret rfl dX13_readPerson_139 ?_
            exact hp m37 l37 (F37.fm M) (fun e9 he9 => by rw [HL] at he9; cases he9; exact z37) (fun s9 hs9 => by rw [HL] at hs9; cases hs9)
          · refine j_iconst (v := nI 2) dX13_readPerson_56 (by decide) ?_
            refine j_goto (tgt := 61) dX13_readPerson_57 (by decide) ?_
            refine j_istore_n (lv2 := [_, _, _, _, _, _, _, _, _, _]) dX13_readPerson_61 rfl (by decide) rfl rfl ?_
            refine j_iload_n dX13_readPerson_62 rfl rfl ?_
            refine j_iconst (v := -1) dX13_readPerson_63 (by decide) ?_
            refine j_icmp_ne (tgt := 72) dX13_readPerson_64 (by decide) (fun h64 => ?_) (fun h64 => absurd h64 (by decide))
            have tK : tS B n (q20.1) = 1 := by
              rw [Bool.not_eq_false, decide_eq_true_eq] at h53; exact h53.1
            have sK : pK B n (q20.1) = .inr (tE B n (q20.1), 2) := by
              rw [decide_eq_false_iff_not] at h25
              rw [decide_eq_false_iff_not] at h39
              rw [Bool.not_eq_false, decide_eq_true_eq] at h53
              unfold pK; rw [if_neg h25, if_neg h39, if_pos h53]
            refine j_aload_n dX13_readPerson_72 rfl rfl ?_
            refine cV13_118 (d1 := 2) rfl dX13_readPerson_73 (by decide) (Nat.le_of_ble_eq_true rfl) ?_
            refine m_goesX (x := .inr q20.1) hX (hB.f F20) z20 (fun q h => by cases h; omega) (fun m38 l38 f38 z38 => ?_)
            have F38 := F20.tr f38
            have z38 : MZ m38 l38 B n (.inr (tE B n (q20.1))) := z38
            refine j_aload_n dX13_readPerson_76 rfl rfl ?_
            refine j_ldcS13_267 dX13_readPerson_77 ?_
            refine cV13_133 (d1 := 8) rfl dX13_readPerson_80 (by decide) (Nat.le_of_ble_eq_true rfl) ?_
            refine m_needs (i := 15) (x := .inr (tE B n (q20.1))) hX (hB.f F38) (by decide) z38 (fun m39 l39 f39 z39 => ?_)
            have F39 := F38.tr f39
            have z39 : MZ m39 l39 B n (pW B n 15 (tE B n (q20.1))) := z39
            rcases s39 : pW B n 15 (tE B n (q20.1)) with e39 | q39
            · rw [s39] at z39
              have HL : liA B n (p, N, t) = .inl e39 := by rw [liA_3 hls ht hc]; simp only [liP, s20, sK, s39, eb_r, eb_l]
              refine j_aload_n dX13_readPerson_83 rfl rfl ?_
              refine j_iconst (v := nI 0) dX13_readPerson_84 (by decide) ?_
              refine cV13_254 (d1 := 10) rfl dX13_readPerson_85 (by decide) (Nat.le_of_ble_eq_true rfl) ?_
              refine m_readKnown (s := 1) (x := .inl e39) hX hM hY hRd (hB.f F39) (hN.f hM F39) hN2 (by decide) z39 (fun v40 m40 l40 f40 z40 g40 => ?_)
              have z40 : MZ m40 l40 B n (.inl e39) := z40
              have F40 := F39.tr f40
              refine j_istore (lv2 := [_, _, _, _, _, _, _, _, _, _]) dX13_readPerson_88 (by decide) rfl rfl ?_
              refine j_aload_n dX13_readPerson_90 rfl rfl ?_
              refine j_ldcS13_269 dX13_readPerson_91 ?_
              refine j_bipush (v := nI 20) dX13_readPerson_94 (by decide) ?_
              refine j_bipush (v := nI 99) dX13_readPerson_96 (by decide) ?_
              refine cV13_225 (d1 := 9) rfl dX13_readPerson_98 (by decide) (Nat.le_of_ble_eq_true rfl) ?_
              refine m_readPart (i := 16) (lo := 20) (hi := 99) (x := .inl e39) hX (hB.f F40) (by decide) (by decide) (by decide) z40 (fun v41 m41 l41 f41 z41 g41 => ?_)
              have z41 : MZ m41 l41 B n (.inl e39) := z41
              have F41 := F40.tr f41
              refine j_istore (lv2 := [_, _, _, _, _, _, _, _, _, _]) dX13_readPerson_101 (by decide) rfl rfl ?_
              refine j_aload_n dX13_readPerson_103 rfl rfl ?_
              refine j_ldcS13_271 dX13_readPerson_104 ?_
              refine cV13_133 (d1 := 8) rfl dX13_readPerson_107 (by decide) (Nat.le_of_ble_eq_true rfl) ?_
              refine m_needs (i := 17) (x := .inl e39) hX (hB.f F41) (by decide) z41 (fun m42 l42 f42 z42 => ?_)
              have z42 : MZ m42 l42 B n (.inl e39) := z42
              have F42 := F41.tr f42
              refine j_aload_n dX13_readPerson_110 rfl rfl ?_
              refine j_iconst (v := nI 3) dX13_readPerson_111 (by decide) ?_
              refine cV13_273 (d1 := 3) rfl dX13_readPerson_112 (by decide) (Nat.le_of_ble_eq_true rfl) ?_
              refine m_readLook3 (x := .inl e39) hX (hB.f F42) z42 (fun v43 m43 l43 f43 z43 g43 => ?_)
              have z43 : MZ m43 l43 B n (.inl e39) := z43
              have F43 := F42.tr f43
              refine j_istore (lv2 := [_, _, _, _, _, _, _, _, _, _]) dX13_readPerson_115 (by decide) rfl rfl ?_
              refine j_aload_n dX13_readPerson_117 rfl rfl ?_
              refine j_ldcS13_276 dX13_readPerson_118 ?_
              refine cV13_133 (d1 := 8) rfl dX13_readPerson_121 (by decide) (Nat.le_of_ble_eq_true rfl) ?_
              refine m_needs (i := 18) (x := .inl e39) hX (hB.f F43) (by decide) z43 (fun m44 l44 f44 z44 => ?_)
              have z44 : MZ m44 l44 B n (.inl e39) := z44
              have F44 := F43.tr f44
              refine j_aload_n dX13_readPerson_124 rfl rfl ?_
              refine j_iconst (v := nI 2) dX13_readPerson_125 (by decide) ?_
              refine cV13_273 (d1 := 3) rfl dX13_readPerson_126 (by decide) (Nat.le_of_ble_eq_true rfl) ?_
              refine m_readLook2 (x := .inl e39) hX (hB.f F44) z44 (fun v45 m45 l45 f45 z45 g45 => ?_)
              have z45 : MZ m45 l45 B n (.inl e39) := z45
              have F45 := F44.tr f45
              refine j_istore (lv2 := [_, _, _, _, _, _, _, _, _, _]) dX13_readPerson_129 (by decide) rfl rfl ?_
              refine j_aload_n dX13_readPerson_131 rfl rfl ?_
              refine gI13_79 rfl dX13_readPerson_132 ?_
              rw [z45.1]
              refine j_iconst (v := nI 5) dX13_readPerson_135 (by decide) ?_
              refine j_icmp_ne (tgt := 140) dX13_readPerson_136 (by decide) (fun h136 => absurd (by decide) h136) (fun h136 => ?_)
              refine j_vret rfl dX13_readPerson_139 ?_
              exact hp m45 l45 (F45.fm M) (fun e9 he9 => by rw [HL] at he9; cases he9; exact z45) (fun s9 hs9 => by rw [HL] at hs9; cases hs9)
            · rw [s39] at z39
              refine j_aload_n dX13_readPerson_83 rfl rfl ?_
              refine j_iconst (v := nI 0) dX13_readPerson_84 (by decide) ?_
              refine cV13_254 (d1 := 10) rfl dX13_readPerson_85 (by decide) (Nat.le_of_ble_eq_true rfl) ?_
              refine m_readKnown (s := 1) (x := .inr q39) hX hM hY hRd (hB.f F39) (hN.f hM F39) hN2 (by decide) z39 (fun v46 m46 l46 f46 z46 g46 => ?_)
              have F46 := F39.tr f46
              have z46 : MZ m46 l46 B n (es (fun _ => tE B n (q39)) (fN B n N 1 (q39))) := z46
              rcases s46 : fN B n N 1 (q39) with e46 | q46
              · have t46 := s46
                rw [← fN_ad (h := tH B n (tE B n p)) (s := 3) (k := t 0 5) (by decide), show adN N (tH B n (tE B n p)) 3 (t 0 5) = q20.2 by rw [eq20]] at t46
                rw [s46] at z46
                have z46 : MZ m46 l46 B n (.inl e46) := z46
                have HL : liA B n (p, N, t) = .inl e46 := by rw [liA_3 hls ht hc]; simp only [liP, s20, sK, s39, t46, eb_r, eb_l]
                refine j_istore (lv2 := [_, _, _, _, _, _, _, _, _, _]) dX13_readPerson_88 (by decide) rfl rfl ?_
                refine j_aload_n dX13_readPerson_90 rfl rfl ?_
                refine j_ldcS13_269 dX13_readPerson_91 ?_
                refine j_bipush (v := nI 20) dX13_readPerson_94 (by decide) ?_
                refine j_bipush (v := nI 99) dX13_readPerson_96 (by decide) ?_
                refine cV13_225 (d1 := 9) rfl dX13_readPerson_98 (by decide) (Nat.le_of_ble_eq_true rfl) ?_
                refine m_readPart (i := 16) (lo := 20) (hi := 99) (x := .inl e46) hX (hB.f F46) (by decide) (by decide) (by decide) z46 (fun v47 m47 l47 f47 z47 g47 => ?_)
                have z47 : MZ m47 l47 B n (.inl e46) := z47
                have F47 := F46.tr f47
                refine j_istore (lv2 := [_, _, _, _, _, _, _, _, _, _]) dX13_readPerson_101 (by decide) rfl rfl ?_
                refine j_aload_n dX13_readPerson_103 rfl rfl ?_
                refine j_ldcS13_271 dX13_readPerson_104 ?_
                refine cV13_133 (d1 := 8) rfl dX13_readPerson_107 (by decide) (Nat.le_of_ble_eq_true rfl) ?_
                refine m_needs (i := 17) (x := .inl e46) hX (hB.f F47) (by decide) z47 (fun m48 l48 f48 z48 => ?_)
                have z48 : MZ m48 l48 B n (.inl e46) := z48
                have F48 := F47.tr f48
                refine j_aload_n dX13_readPerson_110 rfl rfl ?_
                refine j_iconst (v := nI 3) dX13_readPerson_111 (by decide) ?_
                refine cV13_273 (d1 := 3) rfl dX13_readPerson_112 (by decide) (Nat.le_of_ble_eq_true rfl) ?_
                refine m_readLook3 (x := .inl e46) hX (hB.f F48) z48 (fun v49 m49 l49 f49 z49 g49 => ?_)
                have z49 : MZ m49 l49 B n (.inl e46) := z49
                have F49 := F48.tr f49
                refine j_istore (lv2 := [_, _, _, _, _, _, _, _, _, _]) dX13_readPerson_115 (by decide) rfl rfl ?_
                refine j_aload_n dX13_readPerson_117 rfl rfl ?_
                refine j_ldcS13_276 dX13_readPerson_118 ?_
                refine cV13_133 (d1 := 8) rfl dX13_readPerson_121 (by decide) (Nat.le_of_ble_eq_true rfl) ?_
                refine m_needs (i := 18) (x := .inl e46) hX (hB.f F49) (by decide) z49 (fun m50 l50 f50 z50 => ?_)
                have z50 : MZ m50 l50 B n (.inl e46) := z50
                have F50 := F49.tr f50
                refine j_aload_n dX13_readPerson_124 rfl rfl ?_
                refine j_iconst (v := nI 2) dX13_readPerson_125 (by decide) ?_
                refine cV13_273 (d1 := 3) rfl dX13_readPerson_126 (by decide) (Nat.le_of_ble_eq_true rfl) ?_
                refine m_readLook2 (x := .inl e46) hX (hB.f F50) z50 (fun v51 m51 l51 f51 z51 g51 => ?_)
                have z51 : MZ m51 l51 B n (.inl e46) := z51
                have F51 := F50.tr f51
                refine j_istore (lv2 := [_, _, _, _, _, _, _, _, _, _]) dX13_readPerson_129 (by decide) rfl rfl ?_
                refine j_aload_n dX13_readPerson_131 rfl rfl ?_
                refine gI13_79 rfl dX13_readPerson_132 ?_
                rw [z51.1]
                refine j_iconst (v := nI 5) dX13_readPerson_135 (by decide) ?_
                refine j_icmp_ne (tgt := 140) dX13_readPerson_136 (by decide) (fun h136 => absurd (by decide) h136) (fun h136 => ?_)
                refine j_vret rfl dX13_readPerson_139 ?_
                exact hp m51 l51 (F51.fm M) (fun e9 he9 => by rw [HL] at he9; cases he9; exact z51) (fun s9 hs9 => by rw [HL] at hs9; cases hs9)
              · have t46 := s46
                rw [← fN_ad (h := tH B n (tE B n p)) (s := 3) (k := t 0 5) (by decide), show adN N (tH B n (tE B n p)) 3 (t 0 5) = q20.2 by rw [eq20]] at t46
                rw [s46] at z46
                have z46 : MZ m46 l46 B n (.inr (tE B n (q39))) := z46
                have w46 : v46 = nI q46 := g46 _ q46 rfl s46
                subst w46
                have b46 := fN_lt hJ s46
                simp only [true_implies, Nat.reduceEqDiff, false_implies, and_true, true_and] at b46
                refine j_istore (lv2 := [_, _, _, _, _, _, _, _, _, _]) dX13_readPerson_88 (by decide) rfl rfl ?_
                refine j_aload_n dX13_readPerson_90 rfl rfl ?_
                refine j_ldcS13_269 dX13_readPerson_91 ?_
                refine j_bipush (v := nI 20) dX13_readPerson_94 (by decide) ?_
                refine j_bipush (v := nI 99) dX13_readPerson_96 (by decide) ?_
                refine cV13_225 (d1 := 9) rfl dX13_readPerson_98 (by decide) (Nat.le_of_ble_eq_true rfl) ?_
                refine m_readPart (i := 16) (lo := 20) (hi := 99) (x := .inr (tE B n (q39))) hX (hB.f F46) (by decide) (by decide) (by decide) z46 (fun v52 m52 l52 f52 z52 g52 => ?_)
                have F52 := F46.tr f52
                have z52 : MZ m52 l52 B n (es Prod.fst (eb (pW B n 16 (tE B n (q39))) (pN B n 20 99))) := z52
                have g52 : ∀ q, eb (pW B n 16 (tE B n (q39))) (pN B n 20 99) = .inr q → v52 = nI q.2 := g52
                have hst : (∃ e, pW B n 16 (tE B n (q39)) = .inl e) ∨ (∃ r e, pW B n 16 (tE B n (q39)) = .inr r ∧ pN B n 20 99 r = .inl e) ∨ ∃ r q, pW B n 16 (tE B n (q39)) = .inr r ∧ pN B n 20 99 r = .inr q := by
                  cases s0 : pW B n 16 (tE B n (q39)) with
                  | inl e => exact Or.inl ⟨e, rfl⟩
                  | inr r =>
                    cases u0 : pN B n 20 99 r with
                    | inl e => exact Or.inr (Or.inl ⟨r, e, rfl, u0⟩)
                    | inr q => exact Or.inr (Or.inr ⟨r, q, rfl, u0⟩)
                rcases hst with ⟨e52, s52⟩ | ⟨r52, e52, s52, u52⟩ | ⟨r52, q52, s52, u52⟩
                · rw [s52] at z52
                  have z52 : MZ m52 l52 B n (.inl e52) := z52
                  have HL : liA B n (p, N, t) = .inl e52 := by rw [liA_3 hls ht hc]; simp only [liP, s20, sK, s39, t46, s52, eb_r, eb_l]
                  refine j_istore (lv2 := [_, _, _, _, _, _, _, _, _, _]) dX13_readPerson_101 (by decide) rfl rfl ?_
                  refine j_aload_n dX13_readPerson_103 rfl rfl ?_
                  refine j_ldcS13_271 dX13_readPerson_104 ?_
                  refine cV13_133 (d1 := 8) rfl dX13_readPerson_107 (by decide) (Nat.le_of_ble_eq_true rfl) ?_
                  refine m_needs (i := 17) (x := .inl e52) hX (hB.f F52) (by decide) z52 (fun m53 l53 f53 z53 => ?_)
                  have z53 : MZ m53 l53 B n (.inl e52) := z53
                  have F53 := F52.tr f53
                  refine j_aload_n dX13_readPerson_110 rfl rfl ?_
                  refine j_iconst (v := nI 3) dX13_readPerson_111 (by decide) ?_
                  refine cV13_273 (d1 := 3) rfl dX13_readPerson_112 (by decide) (Nat.le_of_ble_eq_true rfl) ?_
                  refine m_readLook3 (x := .inl e52) hX (hB.f F53) z53 (fun v54 m54 l54 f54 z54 g54 => ?_)
                  have z54 : MZ m54 l54 B n (.inl e52) := z54
                  have F54 := F53.tr f54
                  refine j_istore (lv2 := [_, _, _, _, _, _, _, _, _, _]) dX13_readPerson_115 (by decide) rfl rfl ?_
                  refine j_aload_n dX13_readPerson_117 rfl rfl ?_
                  refine j_ldcS13_276 dX13_readPerson_118 ?_
                  refine cV13_133 (d1 := 8) rfl dX13_readPerson_121 (by decide) (Nat.le_of_ble_eq_true rfl) ?_
                  refine m_needs (i := 18) (x := .inl e52) hX (hB.f F54) (by decide) z54 (fun m55 l55 f55 z55 => ?_)
                  have z55 : MZ m55 l55 B n (.inl e52) := z55
                  have F55 := F54.tr f55
                  refine j_aload_n dX13_readPerson_124 rfl rfl ?_
                  refine j_iconst (v := nI 2) dX13_readPerson_125 (by decide) ?_
                  refine cV13_273 (d1 := 3) rfl dX13_readPerson_126 (by decide) (Nat.le_of_ble_eq_true rfl) ?_
                  refine m_readLook2 (x := .inl e52) hX (hB.f F55) z55 (fun v56 m56 l56 f56 z56 g56 => ?_)
                  have z56 : MZ m56 l56 B n (.inl e52) := z56
                  have F56 := F55.tr f56
                  refine j_istore (lv2 := [_, _, _, _, _, _, _, _, _, _]) dX13_readPerson_129 (by decide) rfl rfl ?_
                  refine j_aload_n dX13_readPerson_131 rfl rfl ?_
                  refine gI13_79 rfl dX13_readPerson_132 ?_
                  rw [z56.1]
                  refine j_iconst (v := nI 5) dX13_readPerson_135 (by decide) ?_
                  refine j_icmp_ne (tgt := 140) dX13_readPerson_136 (by decide) (fun h136 => absurd (by decide) h136) (fun h136 => ?_)
                  refine j_vret rfl dX13_readPerson_139 ?_
                  exact hp m56 l56 (F56.fm M) (fun e9 he9 => by rw [HL] at he9; cases he9; exact z56) (fun s9 hs9 => by rw [HL] at hs9; cases hs9)
                · rw [s52, eb_r, u52] at z52
                  have z52 : MZ m52 l52 B n (.inl e52) := z52
                  have HL : liA B n (p, N, t) = .inl e52 := by rw [liA_3 hls ht hc]; simp only [liP, s20, sK, s39, t46, s52, u52, eb_r, eb_l]
                  refine j_istore (lv2 := [_, _, _, _, _, _, _, _, _, _]) dX13_readPerson_101 (by decide) rfl rfl ?_
                  refine j_aload_n dX13_readPerson_103 rfl rfl ?_
                  refine j_ldcS13_271 dX13_readPerson_104 ?_
                  refine cV13_133 (d1 := 8) rfl dX13_readPerson_107 (by decide) (Nat.le_of_ble_eq_true rfl) ?_
                  refine m_needs (i := 17) (x := .inl e52) hX (hB.f F52) (by decide) z52 (fun m57 l57 f57 z57 => ?_)
                  have z57 : MZ m57 l57 B n (.inl e52) := z57
                  have F57 := F52.tr f57
                  refine j_aload_n dX13_readPerson_110 rfl rfl ?_
                  refine j_iconst (v := nI 3) dX13_readPerson_111 (by decide) ?_
                  refine cV13_273 (d1 := 3) rfl dX13_readPerson_112 (by decide) (Nat.le_of_ble_eq_true rfl) ?_
                  refine m_readLook3 (x := .inl e52) hX (hB.f F57) z57 (fun v58 m58 l58 f58 z58 g58 => ?_)
                  have z58 : MZ m58 l58 B n (.inl e52) := z58
                  have F58 := F57.tr f58
                  refine j_istore (lv2 := [_, _, _, _, _, _, _, _, _, _]) dX13_readPerson_115 (by decide) rfl rfl ?_
                  refine j_aload_n dX13_readPerson_117 rfl rfl ?_
                  refine j_ldcS13_276 dX13_readPerson_118 ?_
                  refine cV13_133 (d1 := 8) rfl dX13_readPerson_121 (by decide) (Nat.le_of_ble_eq_true rfl) ?_
                  refine m_needs (i := 18) (x := .inl e52) hX (hB.f F58) (by decide) z58 (fun m59 l59 f59 z59 => ?_)
                  have z59 : MZ m59 l59 B n (.inl e52) := z59
                  have F59 := F58.tr f59
                  refine j_aload_n dX13_readPerson_124 rfl rfl ?_
                  refine j_iconst (v := nI 2) dX13_readPerson_125 (by decide) ?_
                  refine cV13_273 (d1 := 3) rfl dX13_readPerson_126 (by decide) (Nat.le_of_ble_eq_true rfl) ?_
                  refine m_readLook2 (x := .inl e52) hX (hB.f F59) z59 (fun v60 m60 l60 f60 z60 g60 => ?_)
                  have z60 : MZ m60 l60 B n (.inl e52) := z60
                  have F60 := F59.tr f60
                  refine j_istore (lv2 := [_, _, _, _, _, _, _, _, _, _]) dX13_readPerson_129 (by decide) rfl rfl ?_
                  refine j_aload_n dX13_readPerson_131 rfl rfl ?_
                  refine gI13_79 rfl dX13_readPerson_132 ?_
                  rw [z60.1]
                  refine j_iconst (v := nI 5) dX13_readPerson_135 (by decide) ?_
                  refine j_icmp_ne (tgt := 140) dX13_readPerson_136 (by decide) (fun h136 => absurd (by decide) h136) (fun h136 => ?_)
                  refine j_vret rfl dX13_readPerson_139 ?_
                  exact hp m60 l60 (F60.fm M) (fun e9 he9 => by rw [HL] at he9; cases he9; exact z60) (fun s9 hs9 => by rw [HL] at hs9; cases hs9)
                · rw [s52, eb_r, u52] at z52
                  have z52 : MZ m52 l52 B n (.inr q52.1) := z52
                  have w52 : v52 = nI q52.2 := g52 q52 (by rw [s52, eb_r, u52])
                  subst w52
                  have b52 := pN_r u52
                  refine j_istore (lv2 := [_, _, _, _, _, _, _, _, _, _]) dX13_readPerson_101 (by decide) rfl rfl ?_
                  refine j_aload_n dX13_readPerson_103 rfl rfl ?_
                  refine j_ldcS13_271 dX13_readPerson_104 ?_
                  refine cV13_133 (d1 := 8) rfl dX13_readPerson_107 (by decide) (Nat.le_of_ble_eq_true rfl) ?_
                  refine m_needs (i := 17) (x := .inr q52.1) hX (hB.f F52) (by decide) z52 (fun m61 l61 f61 z61 => ?_)
                  have F61 := F52.tr f61
                  have z61 : MZ m61 l61 B n (pW B n 17 (q52.1)) := z61
                  rcases s61 : pW B n 17 (q52.1) with e61 | q61
                  · rw [s61] at z61
                    have HL : liA B n (p, N, t) = .inl e61 := by rw [liA_3 hls ht hc]; simp only [liP, s20, sK, s39, t46, s52, u52, s61, eb_r, eb_l]
                    refine j_aload_n dX13_readPerson_110 rfl rfl ?_
                    refine j_iconst (v := nI 3) dX13_readPerson_111 (by decide) ?_
                    refine cV13_273 (d1 := 3) rfl dX13_readPerson_112 (by decide) (Nat.le_of_ble_eq_true rfl) ?_
                    refine m_readLook3 (x := .inl e61) hX (hB.f F61) z61 (fun v62 m62 l62 f62 z62 g62 => ?_)
                    have z62 : MZ m62 l62 B n (.inl e61) := z62
                    have F62 := F61.tr f62
                    refine j_istore (lv2 := [_, _, _, _, _, _, _, _, _, _]) dX13_readPerson_115 (by decide) rfl rfl ?_
                    refine j_aload_n dX13_readPerson_117 rfl rfl ?_
                    refine j_ldcS13_276 dX13_readPerson_118 ?_
                    refine cV13_133 (d1 := 8) rfl dX13_readPerson_121 (by decide) (Nat.le_of_ble_eq_true rfl) ?_
                    refine m_needs (i := 18) (x := .inl e61) hX (hB.f F62) (by decide) z62 (fun m63 l63 f63 z63 => ?_)
                    have z63 : MZ m63 l63 B n (.inl e61) := z63
                    have F63 := F62.tr f63
                    refine j_aload_n dX13_readPerson_124 rfl rfl ?_
                    refine j_iconst (v := nI 2) dX13_readPerson_125 (by decide) ?_
                    refine cV13_273 (d1 := 3) rfl dX13_readPerson_126 (by decide) (Nat.le_of_ble_eq_true rfl) ?_
                    refine m_readLook2 (x := .inl e61) hX (hB.f F63) z63 (fun v64 m64 l64 f64 z64 g64 => ?_)
                    have z64 : MZ m64 l64 B n (.inl e61) := z64
                    have F64 := F63.tr f64
                    refine j_istore (lv2 := [_, _, _, _, _, _, _, _, _, _]) dX13_readPerson_129 (by decide) rfl rfl ?_
                    refine j_aload_n dX13_readPerson_131 rfl rfl ?_
                    refine gI13_79 rfl dX13_readPerson_132 ?_
                    rw [z64.1]
                    refine j_iconst (v := nI 5) dX13_readPerson_135 (by decide) ?_
                    refine j_icmp_ne (tgt := 140) dX13_readPerson_136 (by decide) (fun h136 => absurd (by decide) h136) (fun h136 => ?_)
                    refine j_vret rfl dX13_readPerson_139 ?_
                    exact hp m64 l64 (F64.fm M) (fun e9 he9 => by rw [HL] at he9; cases he9; exact z64) (fun s9 hs9 => by rw [HL] at hs9; cases hs9)
                  · rw [s61] at z61
                    refine j_aload_n dX13_readPerson_110 rfl rfl ?_
                    refine j_iconst (v := nI 3) dX13_readPerson_111 (by decide) ?_
                    refine cV13_273 (d1 := 3) rfl dX13_readPerson_112 (by decide) (Nat.le_of_ble_eq_true rfl) ?_
                    refine m_readLook3 (x := .inr q61) hX (hB.f F61) z61 (fun v65 m65 l65 f65 z65 g65 => ?_)
                    have F65 := F61.tr f65
                    have z65 : MZ m65 l65 B n (es Prod.fst (pL B n 3 (q61))) := z65
                    rcases s65 : pL B n 3 (q61) with e65 | q65
                    · rw [s65] at z65
                      have z65 : MZ m65 l65 B n (.inl e65) := z65
                      have HL : liA B n (p, N, t) = .inl e65 := by rw [liA_3 hls ht hc]; simp only [liP, s20, sK, s39, t46, s52, u52, s61, s65, eb_r, eb_l]
                      refine j_istore (lv2 := [_, _, _, _, _, _, _, _, _, _]) dX13_readPerson_115 (by decide) rfl rfl ?_
                      refine j_aload_n dX13_readPerson_117 rfl rfl ?_
                      refine j_ldcS13_276 dX13_readPerson_118 ?_
                      refine cV13_133 (d1 := 8) rfl dX13_readPerson_121 (by decide) (Nat.le_of_ble_eq_true rfl) ?_
                      refine m_needs (i := 18) (x := .inl e65) hX (hB.f F65) (by decide) z65 (fun m66 l66 f66 z66 => ?_)
                      have z66 : MZ m66 l66 B n (.inl e65) := z66
                      have F66 := F65.tr f66
                      refine j_aload_n dX13_readPerson_124 rfl rfl ?_
                      refine j_iconst (v := nI 2) dX13_readPerson_125 (by decide) ?_
                      refine cV13_273 (d1 := 3) rfl dX13_readPerson_126 (by decide) (Nat.le_of_ble_eq_true rfl) ?_
                      refine m_readLook2 (x := .inl e65) hX (hB.f F66) z66 (fun v67 m67 l67 f67 z67 g67 => ?_)
                      have z67 : MZ m67 l67 B n (.inl e65) := z67
                      have F67 := F66.tr f67
                      refine j_istore (lv2 := [_, _, _, _, _, _, _, _, _, _]) dX13_readPerson_129 (by decide) rfl rfl ?_
                      refine j_aload_n dX13_readPerson_131 rfl rfl ?_
                      refine gI13_79 rfl dX13_readPerson_132 ?_
                      rw [z67.1]
                      refine j_iconst (v := nI 5) dX13_readPerson_135 (by decide) ?_
                      refine j_icmp_ne (tgt := 140) dX13_readPerson_136 (by decide) (fun h136 => absurd (by decide) h136) (fun h136 => ?_)
                      refine j_vret rfl dX13_readPerson_139 ?_
                      exact hp m67 l67 (F67.fm M) (fun e9 he9 => by rw [HL] at he9; cases he9; exact z67) (fun s9 hs9 => by rw [HL] at hs9; cases hs9)
                    · rw [s65] at z65
                      have z65 : MZ m65 l65 B n (.inr q65.1) := z65
                      have w65 : v65 = nI q65.2 := g65 q65 s65
                      subst w65
                      have b65 := pL_r s65
                      refine j_istore (lv2 := [_, _, _, _, _, _, _, _, _, _]) dX13_readPerson_115 (by decide) rfl rfl ?_
                      refine j_aload_n dX13_readPerson_117 rfl rfl ?_
                      refine j_ldcS13_276 dX13_readPerson_118 ?_
                      refine cV13_133 (d1 := 8) rfl dX13_readPerson_121 (by decide) (Nat.le_of_ble_eq_true rfl) ?_
                      refine m_needs (i := 18) (x := .inr q65.1) hX (hB.f F65) (by decide) z65 (fun m68 l68 f68 z68 => ?_)
                      have F68 := F65.tr f68
                      have z68 : MZ m68 l68 B n (pW B n 18 (q65.1)) := z68
                      rcases s68 : pW B n 18 (q65.1) with e68 | q68
                      · rw [s68] at z68
                        have HL : liA B n (p, N, t) = .inl e68 := by rw [liA_3 hls ht hc]; simp only [liP, s20, sK, s39, t46, s52, u52, s61, s65, s68, eb_r, eb_l]
                        refine j_aload_n dX13_readPerson_124 rfl rfl ?_
                        refine j_iconst (v := nI 2) dX13_readPerson_125 (by decide) ?_
                        refine cV13_273 (d1 := 3) rfl dX13_readPerson_126 (by decide) (Nat.le_of_ble_eq_true rfl) ?_
                        refine m_readLook2 (x := .inl e68) hX (hB.f F68) z68 (fun v69 m69 l69 f69 z69 g69 => ?_)
                        have z69 : MZ m69 l69 B n (.inl e68) := z69
                        have F69 := F68.tr f69
                        refine j_istore (lv2 := [_, _, _, _, _, _, _, _, _, _]) dX13_readPerson_129 (by decide) rfl rfl ?_
                        refine j_aload_n dX13_readPerson_131 rfl rfl ?_
                        refine gI13_79 rfl dX13_readPerson_132 ?_
                        rw [z69.1]
                        refine j_iconst (v := nI 5) dX13_readPerson_135 (by decide) ?_
                        refine j_icmp_ne (tgt := 140) dX13_readPerson_136 (by decide) (fun h136 => absurd (by decide) h136) (fun h136 => ?_)
                        refine j_vret rfl dX13_readPerson_139 ?_
                        exact hp m69 l69 (F69.fm M) (fun e9 he9 => by rw [HL] at he9; cases he9; exact z69) (fun s9 hs9 => by rw [HL] at hs9; cases hs9)
                      · rw [s68] at z68
                        refine j_aload_n dX13_readPerson_124 rfl rfl ?_
                        refine j_iconst (v := nI 2) dX13_readPerson_125 (by decide) ?_
                        refine cV13_273 (d1 := 3) rfl dX13_readPerson_126 (by decide) (Nat.le_of_ble_eq_true rfl) ?_
                        refine m_readLook2 (x := .inr q68) hX (hB.f F68) z68 (fun v70 m70 l70 f70 z70 g70 => ?_)
                        have F70 := F68.tr f70
                        have z70 : MZ m70 l70 B n (es Prod.fst (pL B n 2 (q68))) := z70
                        rcases s70 : pL B n 2 (q68) with e70 | q70
                        · rw [s70] at z70
                          have z70 : MZ m70 l70 B n (.inl e70) := z70
                          have HL : liA B n (p, N, t) = .inl e70 := by rw [liA_3 hls ht hc]; simp only [liP, s20, sK, s39, t46, s52, u52, s61, s65, s68, s70, eb_r, eb_l]
                          refine j_istore (lv2 := [_, _, _, _, _, _, _, _, _, _]) dX13_readPerson_129 (by decide) rfl rfl ?_
                          refine j_aload_n dX13_readPerson_131 rfl rfl ?_
                          refine gI13_79 rfl dX13_readPerson_132 ?_
                          rw [z70.1]
                          refine j_iconst (v := nI 5) dX13_readPerson_135 (by decide) ?_
                          refine j_icmp_ne (tgt := 140) dX13_readPerson_136 (by decide) (fun h136 => absurd (by decide) h136) (fun h136 => ?_)
                          refine j_vret rfl dX13_readPerson_139 ?_
                          exact hp m70 l70 (F70.fm M) (fun e9 he9 => by rw [HL] at he9; cases he9; exact z70) (fun s9 hs9 => by rw [HL] at hs9; cases hs9)
                        · rw [s70] at z70
                          have z70 : MZ m70 l70 B n (.inr q70.1) := z70
                          have w70 : v70 = nI q70.2 := g70 q70 s70
                          subst w70
                          have b70 := pL_r s70
                          refine j_istore (lv2 := [_, _, _, _, _, _, _, _, _, _]) dX13_readPerson_129 (by decide) rfl rfl ?_
                          refine j_aload_n dX13_readPerson_131 rfl rfl ?_
                          refine gI13_79 rfl dX13_readPerson_132 ?_
                          rw [z70.2.1.2.1]
                          refine j_iconst (v := nI 5) dX13_readPerson_135 (by decide) ?_
                          refine j_icmp_ne (tgt := 140) dX13_readPerson_136 (by decide) (fun h136 => ?_) (fun h136 => by exfalso; have h6 := sM_le (tS_le B n (q70.1)); rw [nI_eq (by omega) (by decide)] at h136; omega)
                          refine j_aload_n dX13_readPerson_140 rfl rfl ?_
                          refine gR13_157 rfl dX13_readPerson_141 hRd ?_
                          refine gI13_199 (kM0 hM) dX13_readPerson_144 ?_
                          rw [show m70 M 5 = nI (t 0 5) from (hR.f hM F70).1 5 (by decide)]
                          refine j_istore (lv2 := [_, _, _, _, _, _, _, _, _, _]) dX13_readPerson_147 (by decide) rfl rfl ?_
                          refine j_aload_n dX13_readPerson_149 rfl rfl ?_
                          refine j_lload_n dX13_readPerson_150 rfl rfl ?_
                          refine j_iconst (v := nI 1) dX13_readPerson_151 (by decide) ?_
                          refine j_iload dX13_readPerson_152 rfl ?_
                          refine cV13_246 (d1 := 1) rfl dX13_readPerson_154 (by decide) (Nat.le_of_ble_eq_true rfl) ?_
                          refine m_names (s := 3) (k := t 0 5) hM hY hRd (hN.f hM F70) h17 (fun nn71 => ?_)
                          have FF71 := (((((F70.fm M).pl N.1 (tH B n (tE B n p))).pu hM (a := M + 18) (j := N.1) (by omega) (nI (smc 3))).pu hM (a := M + 19) (j := N.1) (by omega) (nI (t 0 5))).pu hM (a := M) (j := 9) (by omega) (nI (N.1 + 1)))
                          have zz71 := (((z70.pl (a := M + 17) (j := N.1) (by omega) (tH B n (tE B n p))).pu (a := M + 18) (j := N.1) (by omega) (nI (smc 3))).pu (a := M + 19) (j := N.1) (by omega) (nI (t 0 5))).pu (a := M) (j := 9) (by omega) (nI (N.1 + 1))
                          have rr71 : RM _ M t := (((hR.f hM F70).o (a := M + 18) (j := N.1) (x := nI (smc 3)) (fun _ r _ _ => by omega) (fun q => by omega)).o (a := M + 19) (j := N.1) (x := nI (t 0 5)) (fun _ r _ _ => by omega) (fun q => by omega)).o (a := M) (j := 9) (x := nI (N.1 + 1)) (fun q => absurd rfl q) (fun _ => by omega)
                          generalize up (up (up m70 (M + 18) N.1 (nI (smc 3))) (M + 19) N.1 (nI (t 0 5))) M 9 (nI (N.1 + 1)) = y71 at nn71 FF71 zz71 rr71 ⊢
                          generalize upl l70 (M + 17) N.1 (tH B n (tE B n p)) = u71 at nn71 FF71 zz71 rr71 ⊢
                          refine j_aload_n dX13_readPerson_157 rfl rfl ?_
                          refine gR13_157 rfl dX13_readPerson_158 hRd ?_
                          refine gR13_278 (kM0 hM) dX13_readPerson_161 (xM4 hY) ?_
                          refine j_iload dX13_readPerson_164 rfl ?_
                          refine j_iload_n dX13_readPerson_166 rfl rfl ?_
                          refine j_iast (kM4 hM) (inT (lM4 hM) (by have := hg 0 5; show t 0 5 < 6; omega) (by decide)) dX13_readPerson_167 ?_
                          rw [nI_clamp (by have := hg 0 5; omega)]
                          have FF72 := FF71.pu hM (a := M + 4) (j := t 0 5) (by omega) (nI (2))
                          have zz72 := zz71.pu (a := M + 4) (j := t 0 5) (by omega) (nI (2))
                          have rr72 := rr71.put (r := 4) (i := t 0 5) (x := 2) (by decide) (by decide)
                          have nn72 := nn71.pu (r := 4) (i := t 0 5) (by decide) (fun q => absurd q (by decide)) (nI (2))
                          generalize up y71 (M + 4) (t 0 5) (nI (2)) = y72 at FF72 zz72 rr72 nn72 ⊢
                          refine j_aload_n dX13_readPerson_168 rfl rfl ?_
                          refine gR13_157 rfl dX13_readPerson_169 hRd ?_
                          refine gR13_281 (kM0 hM) dX13_readPerson_172 (xM5 hY) ?_
                          refine j_iload dX13_readPerson_175 rfl ?_
                          refine j_iload dX13_readPerson_177 rfl ?_
                          refine j_iast (kM5 hM) (inT (lM5 hM) (by have := hg 0 5; show t 0 5 < 6; omega) (by decide)) dX13_readPerson_179 ?_
                          rw [nI_clamp (by have := hg 0 5; omega)]
                          have FF73 := FF72.pu hM (a := M + 5) (j := t 0 5) (by omega) (nI (q46))
                          have zz73 := zz72.pu (a := M + 5) (j := t 0 5) (by omega) (nI (q46))
                          have rr73 := rr72.put (r := 5) (i := t 0 5) (x := q46) (by decide) (by decide)
                          have nn73 := nn72.pu (r := 5) (i := t 0 5) (by decide) (fun q => absurd q (by decide)) (nI (q46))
                          generalize up y72 (M + 5) (t 0 5) (nI (q46)) = y73 at FF73 zz73 rr73 nn73 ⊢
                          refine j_aload_n dX13_readPerson_180 rfl rfl ?_
                          refine gR13_157 rfl dX13_readPerson_181 hRd ?_
                          refine gR13_283 (kM0 hM) dX13_readPerson_184 (xM6 hY) ?_
                          refine j_iload dX13_readPerson_187 rfl ?_
                          refine j_iload dX13_readPerson_189 rfl ?_
                          refine j_iast (kM6 hM) (inT (lM6 hM) (by have := hg 0 5; show t 0 5 < 6; omega) (by decide)) dX13_readPerson_191 ?_
                          rw [nI_clamp (by have := hg 0 5; omega)]
                          have FF74 := FF73.pu hM (a := M + 6) (j := t 0 5) (by omega) (nI (q52.2))
                          have zz74 := zz73.pu (a := M + 6) (j := t 0 5) (by omega) (nI (q52.2))
                          have rr74 := rr73.put (r := 6) (i := t 0 5) (x := q52.2) (by decide) (by decide)
                          have nn74 := nn73.pu (r := 6) (i := t 0 5) (by decide) (fun q => absurd q (by decide)) (nI (q52.2))
                          generalize up y73 (M + 6) (t 0 5) (nI (q52.2)) = y74 at FF74 zz74 rr74 nn74 ⊢
                          refine j_iconst (v := nI 0) dX13_readPerson_192 (by decide) ?_
                          refine j_istore (lv2 := [_, _, _, _, _, _, _, _, _, _]) dX13_readPerson_193 (by decide) rfl rfl ?_
                          refine j_iload dX13_readPerson_195 rfl ?_
                          refine j_iconst (v := nI 5) dX13_readPerson_197 (by decide) ?_
                          refine j_icmp_ge (tgt := 253) dX13_readPerson_198 (by decide) (fun h198 => absurd h198 (by decide)) (fun h198 => ?_)
                          refine j_aload_n dX13_readPerson_201 rfl rfl ?_
                          refine gR13_157 rfl dX13_readPerson_202 hRd ?_
                          refine gR13_285 (kM0 hM) dX13_readPerson_205 (xM7 hY) ?_
                          refine j_iconst (v := nI 5) dX13_readPerson_208 (by decide) ?_
                          refine j_iload dX13_readPerson_209 rfl ?_
                          refine j_imul dX13_readPerson_211 ?_
                          rw [pk_mul]
                          refine j_iload dX13_readPerson_212 rfl ?_
                          refine j_iadd dX13_readPerson_214 ?_
                          rw [nI_add]
                          refine j_iload dX13_readPerson_215 rfl ?_
                          refine j_iconst (v := nI 3) dX13_readPerson_217 (by decide) ?_
                          refine j_icmp_ge (tgt := 235) dX13_readPerson_218 (by decide) (fun h218 => absurd h218 (by decide)) (fun h218 => ?_)
                          refine j_iload dX13_readPerson_221 rfl ?_
                          refine j_iconst (v := nI 2) dX13_readPerson_223 (by decide) ?_
                          refine j_iconst (v := nI 2) dX13_readPerson_224 (by decide) ?_
                          refine j_iload dX13_readPerson_225 rfl ?_
                          refine j_isub dX13_readPerson_227 ?_
                          rw [show nI 2 - nI 0 = nI 2 by decide]
                          refine j_imul dX13_readPerson_228 ?_
                          rw [show nI 2 * nI 2 = nI 4 by decide]
                          refine j_ishr dX13_readPerson_229 ?_
                          refine j_iconst (v := nI 3) dX13_readPerson_230 (by decide) ?_
                          refine j_iand dX13_readPerson_231 ?_
                          rw [sh4 _ (by have := b65; show q65.2 < 64; omega)]
                          refine j_goto (tgt := 246) dX13_readPerson_232 (by decide) ?_
                          refine j_iast (kM7 hM) (inT (lM7 hM) (by have := hg 0 5; show (5 * (t 0 5)) + 0 < 30; omega) (by decide)) dX13_readPerson_246 ?_
                          rw [nI_clamp (by have := hg 0 5; omega)]
                          have FF75 := FF74.pu hM (a := M + 7) (j := (5 * (t 0 5)) + 0) (by omega) (nI (q65.2 / 4 / 4 % 4))
                          have zz75 := zz74.pu (a := M + 7) (j := (5 * (t 0 5)) + 0) (by omega) (nI (q65.2 / 4 / 4 % 4))
                          have rr75 := rr74.put (r := 7) (i := (5 * (t 0 5)) + 0) (x := q65.2 / 4 / 4 % 4) (by decide) (by decide)
                          have nn75 := nn74.pu (r := 7) (i := (5 * (t 0 5)) + 0) (by decide) (fun q => absurd q (by decide)) (nI (q65.2 / 4 / 4 % 4))
                          generalize up y74 (M + 7) ((5 * (t 0 5)) + 0) (nI (q65.2 / 4 / 4 % 4)) = y75 at FF75 zz75 rr75 nn75 ⊢
                          refine j_iinc1 (lv2 := [_, _, _, _, _, _, _, _, _, _]) dX13_readPerson_247 rfl (by decide) rfl rfl ?_
                          rw [show nI 0 + 1 = nI 1 from rfl]
                          refine j_goto (tgt := 195) dX13_readPerson_250 (by decide) ?_
                          refine j_iload dX13_readPerson_195 rfl ?_
                          refine j_iconst (v := nI 5) dX13_readPerson_197 (by decide) ?_
                          refine j_icmp_ge (tgt := 253) dX13_readPerson_198 (by decide) (fun h198 => absurd h198 (by decide)) (fun h198 => ?_)
                          refine j_aload_n dX13_readPerson_201 rfl rfl ?_
                          refine gR13_157 rfl dX13_readPerson_202 hRd ?_
                          refine gR13_285 (kM0 hM) dX13_readPerson_205 (xM7 hY) ?_
                          refine j_iconst (v := nI 5) dX13_readPerson_208 (by decide) ?_
                          refine j_iload dX13_readPerson_209 rfl ?_
                          refine j_imul dX13_readPerson_211 ?_
                          rw [pk_mul]
                          refine j_iload dX13_readPerson_212 rfl ?_
                          refine j_iadd dX13_readPerson_214 ?_
                          rw [nI_add]
                          refine j_iload dX13_readPerson_215 rfl ?_
                          refine j_iconst (v := nI 3) dX13_readPerson_217 (by decide) ?_
                          refine j_icmp_ge (tgt := 235) dX13_readPerson_218 (by decide) (fun h218 => absurd h218 (by decide)) (fun h218 => ?_)
                          refine j_iload dX13_readPerson_221 rfl ?_
                          refine j_iconst (v := nI 2) dX13_readPerson_223 (by decide) ?_
                          refine j_iconst (v := nI 2) dX13_readPerson_224 (by decide) ?_
                          refine j_iload dX13_readPerson_225 rfl ?_
                          refine j_isub dX13_readPerson_227 ?_
                          rw [show nI 2 - nI 1 = nI 1 by decide]
                          refine j_imul dX13_readPerson_228 ?_
                          rw [show nI 2 * nI 1 = nI 2 by decide]
                          refine j_ishr dX13_readPerson_229 ?_
                          refine j_iconst (v := nI 3) dX13_readPerson_230 (by decide) ?_
                          refine j_iand dX13_readPerson_231 ?_
                          rw [sh2 _ (by have := b65; show q65.2 < 64; omega)]
                          refine j_goto (tgt := 246) dX13_readPerson_232 (by decide) ?_
                          refine j_iast (kM7 hM) (inT (lM7 hM) (by have := hg 0 5; show (5 * (t 0 5)) + 1 < 30; omega) (by decide)) dX13_readPerson_246 ?_
                          rw [nI_clamp (by have := hg 0 5; omega)]
                          have FF76 := FF75.pu hM (a := M + 7) (j := (5 * (t 0 5)) + 1) (by omega) (nI (q65.2 / 4 % 4))
                          have zz76 := zz75.pu (a := M + 7) (j := (5 * (t 0 5)) + 1) (by omega) (nI (q65.2 / 4 % 4))
                          have rr76 := rr75.put (r := 7) (i := (5 * (t 0 5)) + 1) (x := q65.2 / 4 % 4) (by decide) (by decide)
                          have nn76 := nn75.pu (r := 7) (i := (5 * (t 0 5)) + 1) (by decide) (fun q => absurd q (by decide)) (nI (q65.2 / 4 % 4))
                          generalize up y75 (M + 7) ((5 * (t 0 5)) + 1) (nI (q65.2 / 4 % 4)) = y76 at FF76 zz76 rr76 nn76 ⊢
                          refine j_iinc1 (lv2 := [_, _, _, _, _, _, _, _, _, _]) dX13_readPerson_247 rfl (by decide) rfl rfl ?_
                          rw [show nI 1 + 1 = nI 2 from rfl]
                          refine j_goto (tgt := 195) dX13_readPerson_250 (by decide) ?_
                          refine j_iload dX13_readPerson_195 rfl ?_
                          refine j_iconst (v := nI 5) dX13_readPerson_197 (by decide) ?_
                          refine j_icmp_ge (tgt := 253) dX13_readPerson_198 (by decide) (fun h198 => absurd h198 (by decide)) (fun h198 => ?_)
                          refine j_aload_n dX13_readPerson_201 rfl rfl ?_
                          refine gR13_157 rfl dX13_readPerson_202 hRd ?_
                          refine gR13_285 (kM0 hM) dX13_readPerson_205 (xM7 hY) ?_
                          refine j_iconst (v := nI 5) dX13_readPerson_208 (by decide) ?_
                          refine j_iload dX13_readPerson_209 rfl ?_
                          refine j_imul dX13_readPerson_211 ?_
                          rw [pk_mul]
                          refine j_iload dX13_readPerson_212 rfl ?_
                          refine j_iadd dX13_readPerson_214 ?_
                          rw [nI_add]
                          refine j_iload dX13_readPerson_215 rfl ?_
                          refine j_iconst (v := nI 3) dX13_readPerson_217 (by decide) ?_
                          refine j_icmp_ge (tgt := 235) dX13_readPerson_218 (by decide) (fun h218 => absurd h218 (by decide)) (fun h218 => ?_)
                          refine j_iload dX13_readPerson_221 rfl ?_
                          refine j_iconst (v := nI 2) dX13_readPerson_223 (by decide) ?_
                          refine j_iconst (v := nI 2) dX13_readPerson_224 (by decide) ?_
                          refine j_iload dX13_readPerson_225 rfl ?_
                          refine j_isub dX13_readPerson_227 ?_
                          rw [show nI 2 - nI 2 = nI 0 by decide]
                          refine j_imul dX13_readPerson_228 ?_
                          rw [show nI 2 * nI 0 = nI 0 by decide]
                          refine j_ishr dX13_readPerson_229 ?_
                          refine j_iconst (v := nI 3) dX13_readPerson_230 (by decide) ?_
                          refine j_iand dX13_readPerson_231 ?_
                          rw [sh0 _ (by have := b65; show q65.2 < 64; omega)]
                          refine j_goto (tgt := 246) dX13_readPerson_232 (by decide) ?_
                          refine j_iast (kM7 hM) (inT (lM7 hM) (by have := hg 0 5; show (5 * (t 0 5)) + 2 < 30; omega) (by decide)) dX13_readPerson_246 ?_
                          rw [nI_clamp (by have := hg 0 5; omega)]
                          have FF77 := FF76.pu hM (a := M + 7) (j := (5 * (t 0 5)) + 2) (by omega) (nI (q65.2 % 4))
                          have zz77 := zz76.pu (a := M + 7) (j := (5 * (t 0 5)) + 2) (by omega) (nI (q65.2 % 4))
                          have rr77 := rr76.put (r := 7) (i := (5 * (t 0 5)) + 2) (x := q65.2 % 4) (by decide) (by decide)
                          have nn77 := nn76.pu (r := 7) (i := (5 * (t 0 5)) + 2) (by decide) (fun q => absurd q (by decide)) (nI (q65.2 % 4))
                          generalize up y76 (M + 7) ((5 * (t 0 5)) + 2) (nI (q65.2 % 4)) = y77 at FF77 zz77 rr77 nn77 ⊢
                          refine j_iinc1 (lv2 := [_, _, _, _, _, _, _, _, _, _]) dX13_readPerson_247 rfl (by decide) rfl rfl ?_
                          rw [show nI 2 + 1 = nI 3 from rfl]
                          refine j_goto (tgt := 195) dX13_readPerson_250 (by decide) ?_
                          refine j_iload dX13_readPerson_195 rfl ?_
                          refine j_iconst (v := nI 5) dX13_readPerson_197 (by decide) ?_
                          refine j_icmp_ge (tgt := 253) dX13_readPerson_198 (by decide) (fun h198 => absurd h198 (by decide)) (fun h198 => ?_)
                          refine j_aload_n dX13_readPerson_201 rfl rfl ?_
                          refine gR13_157 rfl dX13_readPerson_202 hRd ?_
                          refine gR13_285 (kM0 hM) dX13_readPerson_205 (xM7 hY) ?_
                          refine j_iconst (v := nI 5) dX13_readPerson_208 (by decide) ?_
                          refine j_iload dX13_readPerson_209 rfl ?_
                          refine j_imul dX13_readPerson_211 ?_
                          rw [pk_mul]
                          refine j_iload dX13_readPerson_212 rfl ?_
                          refine j_iadd dX13_readPerson_214 ?_
                          rw [nI_add]
                          refine j_iload dX13_readPerson_215 rfl ?_
                          refine j_iconst (v := nI 3) dX13_readPerson_217 (by decide) ?_
                          refine j_icmp_ge (tgt := 235) dX13_readPerson_218 (by decide) (fun h218 => ?_) (fun h218 => absurd (by decide) h218)
                          refine j_iload dX13_readPerson_235 rfl ?_
                          refine j_iconst (v := nI 2) dX13_readPerson_237 (by decide) ?_
                          refine j_iconst (v := nI 4) dX13_readPerson_238 (by decide) ?_
                          refine j_iload dX13_readPerson_239 rfl ?_
                          refine j_isub dX13_readPerson_241 ?_
                          rw [show nI 4 - nI 3 = nI 1 by decide]
                          refine j_imul dX13_readPerson_242 ?_
                          rw [show nI 2 * nI 1 = nI 2 by decide]
                          refine j_ishr dX13_readPerson_243 ?_
                          refine j_iconst (v := nI 3) dX13_readPerson_244 (by decide) ?_
                          refine j_iand dX13_readPerson_245 ?_
                          rw [sh2 _ (by have := b70; show q70.2 < 64; omega)]
                          refine j_iast (kM7 hM) (inT (lM7 hM) (by have := hg 0 5; show (5 * (t 0 5)) + 3 < 30; omega) (by decide)) dX13_readPerson_246 ?_
                          rw [nI_clamp (by have := hg 0 5; omega)]
                          have FF78 := FF77.pu hM (a := M + 7) (j := (5 * (t 0 5)) + 3) (by omega) (nI (q70.2 / 4 % 4))
                          have zz78 := zz77.pu (a := M + 7) (j := (5 * (t 0 5)) + 3) (by omega) (nI (q70.2 / 4 % 4))
                          have rr78 := rr77.put (r := 7) (i := (5 * (t 0 5)) + 3) (x := q70.2 / 4 % 4) (by decide) (by decide)
                          have nn78 := nn77.pu (r := 7) (i := (5 * (t 0 5)) + 3) (by decide) (fun q => absurd q (by decide)) (nI (q70.2 / 4 % 4))
                          generalize up y77 (M + 7) ((5 * (t 0 5)) + 3) (nI (q70.2 / 4 % 4)) = y78 at FF78 zz78 rr78 nn78 ⊢
                          refine j_iinc1 (lv2 := [_, _, _, _, _, _, _, _, _, _]) dX13_readPerson_247 rfl (by decide) rfl rfl ?_
                          rw [show nI 3 + 1 = nI 4 from rfl]
                          refine j_goto (tgt := 195) dX13_readPerson_250 (by decide) ?_
                          refine j_iload dX13_readPerson_195 rfl ?_
                          refine j_iconst (v := nI 5) dX13_readPerson_197 (by decide) ?_
                          refine j_icmp_ge (tgt := 253) dX13_readPerson_198 (by decide) (fun h198 => absurd h198 (by decide)) (fun h198 => ?_)
                          refine j_aload_n dX13_readPerson_201 rfl rfl ?_
                          refine gR13_157 rfl dX13_readPerson_202 hRd ?_
                          refine gR13_285 (kM0 hM) dX13_readPerson_205 (xM7 hY) ?_
                          refine j_iconst (v := nI 5) dX13_readPerson_208 (by decide) ?_
                          refine j_iload dX13_readPerson_209 rfl ?_
                          refine j_imul dX13_readPerson_211 ?_
                          rw [pk_mul]
                          refine j_iload dX13_readPerson_212 rfl ?_
                          refine j_iadd dX13_readPerson_214 ?_
                          rw [nI_add]
                          refine j_iload dX13_readPerson_215 rfl ?_
                          refine j_iconst (v := nI 3) dX13_readPerson_217 (by decide) ?_
                          refine j_icmp_ge (tgt := 235) dX13_readPerson_218 (by decide) (fun h218 => ?_) (fun h218 => absurd (by decide) h218)
                          refine j_iload dX13_readPerson_235 rfl ?_
                          refine j_iconst (v := nI 2) dX13_readPerson_237 (by decide) ?_
                          refine j_iconst (v := nI 4) dX13_readPerson_238 (by decide) ?_
                          refine j_iload dX13_readPerson_239 rfl ?_
                          refine j_isub dX13_readPerson_241 ?_
                          rw [show nI 4 - nI 4 = nI 0 by decide]
                          refine j_imul dX13_readPerson_242 ?_
                          rw [show nI 2 * nI 0 = nI 0 by decide]
                          refine j_ishr dX13_readPerson_243 ?_
                          refine j_iconst (v := nI 3) dX13_readPerson_244 (by decide) ?_
                          refine j_iand dX13_readPerson_245 ?_
                          rw [sh0 _ (by have := b70; show q70.2 < 64; omega)]
                          refine j_iast (kM7 hM) (inT (lM7 hM) (by have := hg 0 5; show (5 * (t 0 5)) + 4 < 30; omega) (by decide)) dX13_readPerson_246 ?_
                          rw [nI_clamp (by have := hg 0 5; omega)]
                          have FF79 := FF78.pu hM (a := M + 7) (j := (5 * (t 0 5)) + 4) (by omega) (nI (q70.2 % 4))
                          have zz79 := zz78.pu (a := M + 7) (j := (5 * (t 0 5)) + 4) (by omega) (nI (q70.2 % 4))
                          have rr79 := rr78.put (r := 7) (i := (5 * (t 0 5)) + 4) (x := q70.2 % 4) (by decide) (by decide)
                          have nn79 := nn78.pu (r := 7) (i := (5 * (t 0 5)) + 4) (by decide) (fun q => absurd q (by decide)) (nI (q70.2 % 4))
                          generalize up y78 (M + 7) ((5 * (t 0 5)) + 4) (nI (q70.2 % 4)) = y79 at FF79 zz79 rr79 nn79 ⊢
                          refine j_iinc1 (lv2 := [_, _, _, _, _, _, _, _, _, _]) dX13_readPerson_247 rfl (by decide) rfl rfl ?_
                          rw [show nI 4 + 1 = nI 5 from rfl]
                          refine j_goto (tgt := 195) dX13_readPerson_250 (by decide) ?_
                          refine j_iload dX13_readPerson_195 rfl ?_
                          refine j_iconst (v := nI 5) dX13_readPerson_197 (by decide) ?_
                          refine j_icmp_ge (tgt := 253) dX13_readPerson_198 (by decide) (fun h198 => ?_) (fun h198 => absurd (by decide) h198)
                          rw [pMk_eq] at rr79
                          refine j_aload_n dX13_readPerson_253 rfl rfl ?_
                          refine gR13_157 rfl dX13_readPerson_254 hRd ?_
                          refine j_dup dX13_readPerson_257 rfl ?_
                          refine gI13_199 (kM0 hM) dX13_readPerson_258 ?_
                          rw [show y79 M 5 = nI (t 0 5) from rr79.1 5 (by decide)]
                          refine j_iconst (v := nI 1) dX13_readPerson_261 (by decide) ?_
                          refine j_iadd dX13_readPerson_262 ?_
                          rw [nI_add]
                          refine pI13_199 (kM0 hM) dX13_readPerson_263 ?_
                          have FF80 := FF79.pu hM (a := M) (j := 5) (by omega) (nI ((t 0 5) + 1))
                          have zz80 := zz79.pu (a := M) (j := 5) (by omega) (nI ((t 0 5) + 1))
                          have rr80 := rr79.put0 (i := 5) (x := (t 0 5) + 1)
                          have nn80 := nn79.pu (r := 0) (i := 5) (by decide) (fun _ => by decide) (nI ((t 0 5) + 1))
                          rw [Nat.add_zero] at nn80
                          generalize up y79 (M) (5) (nI ((t 0 5) + 1)) = y80 at FF80 zz80 rr80 nn80 ⊢
                          refine j_vret rfl dX13_readPerson_266 ?_
                          have HL : liA B n (p, N, t) = .inr (q70.1, q20.2, ut (pMk (ut (ut (ut t 4 (t 0 5) 2) 5 (t 0 5) q46) 6 (t 0 5) q52.2) (t 0 5) q65.2 q70.2) 0 5 (t 0 5 + 1)) := by rw [liA_3 hls ht hc]; simp only [liP, s20, sK, s39, t46, s52, u52, s61, s65, s68, s70, eb_r, eb_l]
                          refine hp y80 u71 FF80 (fun e9 he9 => by rw [HL] at he9; cases he9) (fun s9 hs9 => ?_)
                          rw [HL] at hs9
                          cases hs9
                          exact ⟨zz80, rr80, (by rw [eq20]; exact nn80)⟩
        · refine j_iconst (v := nI 1) dX13_readPerson_42 (by decide) ?_
          refine j_goto (tgt := 61) dX13_readPerson_43 (by decide) ?_
          refine j_istore_n (lv2 := [_, _, _, _, _, _, _, _, _, _]) dX13_readPerson_61 rfl (by decide) rfl rfl ?_
          refine j_iload_n dX13_readPerson_62 rfl rfl ?_
          refine j_iconst (v := -1) dX13_readPerson_63 (by decide) ?_
          refine j_icmp_ne (tgt := 72) dX13_readPerson_64 (by decide) (fun h64 => ?_) (fun h64 => absurd h64 (by decide))
          have tK : tS B n (q20.1) = 1 := by
            rw [Bool.not_eq_false, decide_eq_true_eq] at h39; exact h39.1
          have sK : pK B n (q20.1) = .inr (tE B n (q20.1), 1) := by
            rw [decide_eq_false_iff_not] at h25
            rw [Bool.not_eq_false, decide_eq_true_eq] at h39
            unfold pK; rw [if_neg h25, if_pos h39]
          refine j_aload_n dX13_readPerson_72 rfl rfl ?_
          refine cV13_118 (d1 := 2) rfl dX13_readPerson_73 (by decide) (Nat.le_of_ble_eq_true rfl) ?_
          refine m_goesX (x := .inr q20.1) hX (hB.f F20) z20 (fun q h => by cases h; omega) (fun m81 l81 f81 z81 => ?_)
          have F81 := F20.tr f81
          have z81 : MZ m81 l81 B n (.inr (tE B n (q20.1))) := z81
          refine j_aload_n dX13_readPerson_76 rfl rfl ?_
          refine j_ldcS13_267 dX13_readPerson_77 ?_
          refine cV13_133 (d1 := 8) rfl dX13_readPerson_80 (by decide) (Nat.le_of_ble_eq_true rfl) ?_
          refine m_needs (i := 15) (x := .inr (tE B n (q20.1))) hX (hB.f F81) (by decide) z81 (fun m82 l82 f82 z82 => ?_)
          have F82 := F81.tr f82
          have z82 : MZ m82 l82 B n (pW B n 15 (tE B n (q20.1))) := z82
          rcases s82 : pW B n 15 (tE B n (q20.1)) with e82 | q82
          · rw [s82] at z82
            have HL : liA B n (p, N, t) = .inl e82 := by rw [liA_3 hls ht hc]; simp only [liP, s20, sK, s82, eb_r, eb_l]
            refine j_aload_n dX13_readPerson_83 rfl rfl ?_
            refine j_iconst (v := nI 0) dX13_readPerson_84 (by decide) ?_
            refine cV13_254 (d1 := 10) rfl dX13_readPerson_85 (by decide) (Nat.le_of_ble_eq_true rfl) ?_
            refine m_readKnown (s := 1) (x := .inl e82) hX hM hY hRd (hB.f F82) (hN.f hM F82) hN2 (by decide) z82 (fun v83 m83 l83 f83 z83 g83 => ?_)
            have z83 : MZ m83 l83 B n (.inl e82) := z83
            have F83 := F82.tr f83
            refine j_istore (lv2 := [_, _, _, _, _, _, _, _, _, _]) dX13_readPerson_88 (by decide) rfl rfl ?_
            refine j_aload_n dX13_readPerson_90 rfl rfl ?_
            refine j_ldcS13_269 dX13_readPerson_91 ?_
            refine j_bipush (v := nI 20) dX13_readPerson_94 (by decide) ?_
            refine j_bipush (v := nI 99) dX13_readPerson_96 (by decide) ?_
            refine cV13_225 (d1 := 9) rfl dX13_readPerson_98 (by decide) (Nat.le_of_ble_eq_true rfl) ?_
            refine m_readPart (i := 16) (lo := 20) (hi := 99) (x := .inl e82) hX (hB.f F83) (by decide) (by decide) (by decide) z83 (fun v84 m84 l84 f84 z84 g84 => ?_)
            have z84 : MZ m84 l84 B n (.inl e82) := z84
            have F84 := F83.tr f84
            refine j_istore (lv2 := [_, _, _, _, _, _, _, _, _, _]) dX13_readPerson_101 (by decide) rfl rfl ?_
            refine j_aload_n dX13_readPerson_103 rfl rfl ?_
            refine j_ldcS13_271 dX13_readPerson_104 ?_
            refine cV13_133 (d1 := 8) rfl dX13_readPerson_107 (by decide) (Nat.le_of_ble_eq_true rfl) ?_
            refine m_needs (i := 17) (x := .inl e82) hX (hB.f F84) (by decide) z84 (fun m85 l85 f85 z85 => ?_)
            have z85 : MZ m85 l85 B n (.inl e82) := z85
            have F85 := F84.tr f85
            refine j_aload_n dX13_readPerson_110 rfl rfl ?_
            refine j_iconst (v := nI 3) dX13_readPerson_111 (by decide) ?_
            refine cV13_273 (d1 := 3) rfl dX13_readPerson_112 (by decide) (Nat.le_of_ble_eq_true rfl) ?_
            refine m_readLook3 (x := .inl e82) hX (hB.f F85) z85 (fun v86 m86 l86 f86 z86 g86 => ?_)
            have z86 : MZ m86 l86 B n (.inl e82) := z86
            have F86 := F85.tr f86
            refine j_istore (lv2 := [_, _, _, _, _, _, _, _, _, _]) dX13_readPerson_115 (by decide) rfl rfl ?_
            refine j_aload_n dX13_readPerson_117 rfl rfl ?_
            refine j_ldcS13_276 dX13_readPerson_118 ?_
            refine cV13_133 (d1 := 8) rfl dX13_readPerson_121 (by decide) (Nat.le_of_ble_eq_true rfl) ?_
            refine m_needs (i := 18) (x := .inl e82) hX (hB.f F86) (by decide) z86 (fun m87 l87 f87 z87 => ?_)
            have z87 : MZ m87 l87 B n (.inl e82) := z87
            have F87 := F86.tr f87
            refine j_aload_n dX13_readPerson_124 rfl rfl ?_
            refine j_iconst (v := nI 2) dX13_readPerson_125 (by decide) ?_
            refine cV13_273 (d1 := 3) rfl dX13_readPerson_126 (by decide) (Nat.le_of_ble_eq_true rfl) ?_
            refine m_readLook2 (x := .inl e82) hX (hB.f F87) z87 (fun v88 m88 l88 f88 z88 g88 => ?_)
            have z88 : MZ m88 l88 B n (.inl e82) := z88
            have F88 := F87.tr f88
            refine j_istore (lv2 := [_, _, _, _, _, _, _, _, _, _]) dX13_readPerson_129 (by decide) rfl rfl ?_
            refine j_aload_n dX13_readPerson_131 rfl rfl ?_
            refine gI13_79 rfl dX13_readPerson_132 ?_
            rw [z88.1]
            refine j_iconst (v := nI 5) dX13_readPerson_135 (by decide) ?_
            refine j_icmp_ne (tgt := 140) dX13_readPerson_136 (by decide) (fun h136 => absurd (by decide) h136) (fun h136 => ?_)
            refine j_vret rfl dX13_readPerson_139 ?_
            exact hp m88 l88 (F88.fm M) (fun e9 he9 => by rw [HL] at he9; cases he9; exact z88) (fun s9 hs9 => by rw [HL] at hs9; cases hs9)
          · rw [s82] at z82
            refine j_aload_n dX13_readPerson_83 rfl rfl ?_
            refine j_iconst (v := nI 0) dX13_readPerson_84 (by decide) ?_
            refine cV13_254 (d1 := 10) rfl dX13_readPerson_85 (by decide) (Nat.le_of_ble_eq_true rfl) ?_
            refine m_readKnown (s := 1) (x := .inr q82) hX hM hY hRd (hB.f F82) (hN.f hM F82) hN2 (by decide) z82 (fun v89 m89 l89 f89 z89 g89 => ?_)
            have F89 := F82.tr f89
            have z89 : MZ m89 l89 B n (es (fun _ => tE B n (q82)) (fN B n N 1 (q82))) := z89
            rcases s89 : fN B n N 1 (q82) with e89 | q89
            · have t89 := s89
              rw [← fN_ad (h := tH B n (tE B n p)) (s := 3) (k := t 0 5) (by decide), show adN N (tH B n (tE B n p)) 3 (t 0 5) = q20.2 by rw [eq20]] at t89
              rw [s89] at z89
              have z89 : MZ m89 l89 B n (.inl e89) := z89
              have HL : liA B n (p, N, t) = .inl e89 := by rw [liA_3 hls ht hc]; simp only [liP, s20, sK, s82, t89, eb_r, eb_l]
              refine j_istore (lv2 := [_, _, _, _, _, _, _, _, _, _]) dX13_readPerson_88 (by decide) rfl rfl ?_
              refine j_aload_n dX13_readPerson_90 rfl rfl ?_
              refine j_ldcS13_269 dX13_readPerson_91 ?_
              refine j_bipush (v := nI 20) dX13_readPerson_94 (by decide) ?_
              refine j_bipush (v := nI 99) dX13_readPerson_96 (by decide) ?_
              refine cV13_225 (d1 := 9) rfl dX13_readPerson_98 (by decide) (Nat.le_of_ble_eq_true rfl) ?_
              refine m_readPart (i := 16) (lo := 20) (hi := 99) (x := .inl e89) hX (hB.f F89) (by decide) (by decide) (by decide) z89 (fun v90 m90 l90 f90 z90 g90 => ?_)
              have z90 : MZ m90 l90 B n (.inl e89) := z90
              have F90 := F89.tr f90
              refine j_istore (lv2 := [_, _, _, _, _, _, _, _, _, _]) dX13_readPerson_101 (by decide) rfl rfl ?_
              refine j_aload_n dX13_readPerson_103 rfl rfl ?_
              refine j_ldcS13_271 dX13_readPerson_104 ?_
              refine cV13_133 (d1 := 8) rfl dX13_readPerson_107 (by decide) (Nat.le_of_ble_eq_true rfl) ?_
              refine m_needs (i := 17) (x := .inl e89) hX (hB.f F90) (by decide) z90 (fun m91 l91 f91 z91 => ?_)
              have z91 : MZ m91 l91 B n (.inl e89) := z91
              have F91 := F90.tr f91
              refine j_aload_n dX13_readPerson_110 rfl rfl ?_
              refine j_iconst (v := nI 3) dX13_readPerson_111 (by decide) ?_
              refine cV13_273 (d1 := 3) rfl dX13_readPerson_112 (by decide) (Nat.le_of_ble_eq_true rfl) ?_
              refine m_readLook3 (x := .inl e89) hX (hB.f F91) z91 (fun v92 m92 l92 f92 z92 g92 => ?_)
              have z92 : MZ m92 l92 B n (.inl e89) := z92
              have F92 := F91.tr f92
              refine j_istore (lv2 := [_, _, _, _, _, _, _, _, _, _]) dX13_readPerson_115 (by decide) rfl rfl ?_
              refine j_aload_n dX13_readPerson_117 rfl rfl ?_
              refine j_ldcS13_276 dX13_readPerson_118 ?_
              refine cV13_133 (d1 := 8) rfl dX13_readPerson_121 (by decide) (Nat.le_of_ble_eq_true rfl) ?_
              refine m_needs (i := 18) (x := .inl e89) hX (hB.f F92) (by decide) z92 (fun m93 l93 f93 z93 => ?_)
              have z93 : MZ m93 l93 B n (.inl e89) := z93
              have F93 := F92.tr f93
              refine j_aload_n dX13_readPerson_124 rfl rfl ?_
              refine j_iconst (v := nI 2) dX13_readPerson_125 (by decide) ?_
              refine cV13_273 (d1 := 3) rfl dX13_readPerson_126 (by decide) (Nat.le_of_ble_eq_true rfl) ?_
              refine m_readLook2 (x := .inl e89) hX (hB.f F93) z93 (fun v94 m94 l94 f94 z94 g94 => ?_)
              have z94 : MZ m94 l94 B n (.inl e89) := z94
              have F94 := F93.tr f94
              refine j_istore (lv2 := [_, _, _, _, _, _, _, _, _, _]) dX13_readPerson_129 (by decide) rfl rfl ?_
              refine j_aload_n dX13_readPerson_131 rfl rfl ?_
              refine gI13_79 rfl dX13_readPerson_132 ?_
              rw [z94.1]
              refine j_iconst (v := nI 5) dX13_readPerson_135 (by decide) ?_
              refine j_icmp_ne (tgt := 140) dX13_readPerson_136 (by decide) (fun h136 => absurd (by decide) h136) (fun h136 => ?_)
              refine j_vret rfl dX13_readPerson_139 ?_
              exact hp m94 l94 (F94.fm M) (fun e9 he9 => by rw [HL] at he9; cases he9; exact z94) (fun s9 hs9 => by rw [HL] at hs9; cases hs9)
            · have t89 := s89
              rw [← fN_ad (h := tH B n (tE B n p)) (s := 3) (k := t 0 5) (by decide), show adN N (tH B n (tE B n p)) 3 (t 0 5) = q20.2 by rw [eq20]] at t89
              rw [s89] at z89
              have z89 : MZ m89 l89 B n (.inr (tE B n (q82))) := z89
              have w89 : v89 = nI q89 := g89 _ q89 rfl s89
              subst w89
              have b89 := fN_lt hJ s89
              simp only [true_implies, Nat.reduceEqDiff, false_implies, and_true, true_and] at b89
              refine j_istore (lv2 := [_, _, _, _, _, _, _, _, _, _]) dX13_readPerson_88 (by decide) rfl rfl ?_
              refine j_aload_n dX13_readPerson_90 rfl rfl ?_
              refine j_ldcS13_269 dX13_readPerson_91 ?_
              refine j_bipush (v := nI 20) dX13_readPerson_94 (by decide) ?_
              refine j_bipush (v := nI 99) dX13_readPerson_96 (by decide) ?_
              refine cV13_225 (d1 := 9) rfl dX13_readPerson_98 (by decide) (Nat.le_of_ble_eq_true rfl) ?_
              refine m_readPart (i := 16) (lo := 20) (hi := 99) (x := .inr (tE B n (q82))) hX (hB.f F89) (by decide) (by decide) (by decide) z89 (fun v95 m95 l95 f95 z95 g95 => ?_)
              have F95 := F89.tr f95
              have z95 : MZ m95 l95 B n (es Prod.fst (eb (pW B n 16 (tE B n (q82))) (pN B n 20 99))) := z95
              have g95 : ∀ q, eb (pW B n 16 (tE B n (q82))) (pN B n 20 99) = .inr q → v95 = nI q.2 := g95
              have hst : (∃ e, pW B n 16 (tE B n (q82)) = .inl e) ∨ (∃ r e, pW B n 16 (tE B n (q82)) = .inr r ∧ pN B n 20 99 r = .inl e) ∨ ∃ r q, pW B n 16 (tE B n (q82)) = .inr r ∧ pN B n 20 99 r = .inr q := by
                cases s0 : pW B n 16 (tE B n (q82)) with
                | inl e => exact Or.inl ⟨e, rfl⟩
                | inr r =>
                  cases u0 : pN B n 20 99 r with
                  | inl e => exact Or.inr (Or.inl ⟨r, e, rfl, u0⟩)
                  | inr q => exact Or.inr (Or.inr ⟨r, q, rfl, u0⟩)
              rcases hst with ⟨e95, s95⟩ | ⟨r95, e95, s95, u95⟩ | ⟨r95, q95, s95, u95⟩
              · rw [s95] at z95
                have z95 : MZ m95 l95 B n (.inl e95) := z95
                have HL : liA B n (p, N, t) = .inl e95 := by rw [liA_3 hls ht hc]; simp only [liP, s20, sK, s82, t89, s95, eb_r, eb_l]
                refine j_istore (lv2 := [_, _, _, _, _, _, _, _, _, _]) dX13_readPerson_101 (by decide) rfl rfl ?_
                refine j_aload_n dX13_readPerson_103 rfl rfl ?_
                refine j_ldcS13_271 dX13_readPerson_104 ?_
                refine cV13_133 (d1 := 8) rfl dX13_readPerson_107 (by decide) (Nat.le_of_ble_eq_true rfl) ?_
                refine m_needs (i := 17) (x := .inl e95) hX (hB.f F95) (by decide) z95 (fun m96 l96 f96 z96 => ?_)
                have z96 : MZ m96 l96 B n (.inl e95) := z96
                have F96 := F95.tr f96
                refine j_aload_n dX13_readPerson_110 rfl rfl ?_
                refine j_iconst (v := nI 3) dX13_readPerson_111 (by decide) ?_
                refine cV13_273 (d1 := 3) rfl dX13_readPerson_112 (by decide) (Nat.le_of_ble_eq_true rfl) ?_
                refine m_readLook3 (x := .inl e95) hX (hB.f F96) z96 (fun v97 m97 l97 f97 z97 g97 => ?_)
                have z97 : MZ m97 l97 B n (.inl e95) := z97
                have F97 := F96.tr f97
                refine j_istore (lv2 := [_, _, _, _, _, _, _, _, _, _]) dX13_readPerson_115 (by decide) rfl rfl ?_
                refine j_aload_n dX13_readPerson_117 rfl rfl ?_
                refine j_ldcS13_276 dX13_readPerson_118 ?_
                refine cV13_133 (d1 := 8) rfl dX13_readPerson_121 (by decide) (Nat.le_of_ble_eq_true rfl) ?_
                refine m_needs (i := 18) (x := .inl e95) hX (hB.f F97) (by decide) z97 (fun m98 l98 f98 z98 => ?_)
                have z98 : MZ m98 l98 B n (.inl e95) := z98
                have F98 := F97.tr f98
                refine j_aload_n dX13_readPerson_124 rfl rfl ?_
                refine j_iconst (v := nI 2) dX13_readPerson_125 (by decide) ?_
                refine cV13_273 (d1 := 3) rfl dX13_readPerson_126 (by decide) (Nat.le_of_ble_eq_true rfl) ?_
                refine m_readLook2 (x := .inl e95) hX (hB.f F98) z98 (fun v99 m99 l99 f99 z99 g99 => ?_)
                have z99 : MZ m99 l99 B n (.inl e95) := z99
                have F99 := F98.tr f99
                refine j_istore (lv2 := [_, _, _, _, _, _, _, _, _, _]) dX13_readPerson_129 (by decide) rfl rfl ?_
                refine j_aload_n dX13_readPerson_131 rfl rfl ?_
                refine gI13_79 rfl dX13_readPerson_132 ?_
                rw [z99.1]
                refine j_iconst (v := nI 5) dX13_readPerson_135 (by decide) ?_
                refine j_icmp_ne (tgt := 140) dX13_readPerson_136 (by decide) (fun h136 => absurd (by decide) h136) (fun h136 => ?_)
                refine j_vret rfl dX13_readPerson_139 ?_
                exact hp m99 l99 (F99.fm M) (fun e9 he9 => by rw [HL] at he9; cases he9; exact z99) (fun s9 hs9 => by rw [HL] at hs9; cases hs9)
              · rw [s95, eb_r, u95] at z95
                have z95 : MZ m95 l95 B n (.inl e95) := z95
                have HL : liA B n (p, N, t) = .inl e95 := by rw [liA_3 hls ht hc]; simp only [liP, s20, sK, s82, t89, s95, u95, eb_r, eb_l]
                refine j_istore (lv2 := [_, _, _, _, _, _, _, _, _, _]) dX13_readPerson_101 (by decide) rfl rfl ?_
                refine j_aload_n dX13_readPerson_103 rfl rfl ?_
                refine j_ldcS13_271 dX13_readPerson_104 ?_
                refine cV13_133 (d1 := 8) rfl dX13_readPerson_107 (by decide) (Nat.le_of_ble_eq_true rfl) ?_
                refine m_needs (i := 17) (x := .inl e95) hX (hB.f F95) (by decide) z95 (fun m100 l100 f100 z100 => ?_)
                have z100 : MZ m100 l100 B n (.inl e95) := z100
                have F100 := F95.tr f100
                refine j_aload_n dX13_readPerson_110 rfl rfl ?_
                refine j_iconst (v := nI 3) dX13_readPerson_111 (by decide) ?_
                refine cV13_273 (d1 := 3) rfl dX13_readPerson_112 (by decide) (Nat.le_of_ble_eq_true rfl) ?_
                refine m_readLook3 (x := .inl e95) hX (hB.f F100) z100 (fun v101 m101 l101 f101 z101 g101 => ?_)
                have z101 : MZ m101 l101 B n (.inl e95) := z101
                have F101 := F100.tr f101
                refine j_istore (lv2 := [_, _, _, _, _, _, _, _, _, _]) dX13_readPerson_115 (by decide) rfl rfl ?_
                refine j_aload_n dX13_readPerson_117 rfl rfl ?_
                refine j_ldcS13_276 dX13_readPerson_118 ?_
                refine cV13_133 (d1 := 8) rfl dX13_readPerson_121 (by decide) (Nat.le_of_ble_eq_true rfl) ?_
                refine m_needs (i := 18) (x := .inl e95) hX (hB.f F101) (by decide) z101 (fun m102 l102 f102 z102 => ?_)
                have z102 : MZ m102 l102 B n (.inl e95) := z102
                have F102 := F101.tr f102
                refine j_aload_n dX13_readPerson_124 rfl rfl ?_
                refine j_iconst (v := nI 2) dX13_readPerson_125 (by decide) ?_
                refine cV13_273 (d1 := 3) rfl dX13_readPerson_126 (by decide) (Nat.le_of_ble_eq_true rfl) ?_
                refine m_readLook2 (x := .inl e95) hX (hB.f F102) z102 (fun v103 m103 l103 f103 z103 g103 => ?_)
                have z103 : MZ m103 l103 B n (.inl e95) := z103
                have F103 := F102.tr f103
                refine j_istore (lv2 := [_, _, _, _, _, _, _, _, _, _]) dX13_readPerson_129 (by decide) rfl rfl ?_
                refine j_aload_n dX13_readPerson_131 rfl rfl ?_
                refine gI13_79 rfl dX13_readPerson_132 ?_
                rw [z103.1]
                refine j_iconst (v := nI 5) dX13_readPerson_135 (by decide) ?_
                refine j_icmp_ne (tgt := 140) dX13_readPerson_136 (by decide) (fun h136 => absurd (by decide) h136) (fun h136 => ?_)
                refine j_vret rfl dX13_readPerson_139 ?_
                exact hp m103 l103 (F103.fm M) (fun e9 he9 => by rw [HL] at he9; cases he9; exact z103) (fun s9 hs9 => by rw [HL] at hs9; cases hs9)
              · rw [s95, eb_r, u95] at z95
                have z95 : MZ m95 l95 B n (.inr q95.1) := z95
                have w95 : v95 = nI q95.2 := g95 q95 (by rw [s95, eb_r, u95])
                subst w95
                have b95 := pN_r u95
                refine j_istore (lv2 := [_, _, _, _, _, _, _, _, _, _]) dX13_readPerson_101 (by decide) rfl rfl ?_
                refine j_aload_n dX13_readPerson_103 rfl rfl ?_
                refine j_ldcS13_271 dX13_readPerson_104 ?_
                refine cV13_133 (d1 := 8) rfl dX13_readPerson_107 (by decide) (Nat.le_of_ble_eq_true rfl) ?_
                refine m_needs (i := 17) (x := .inr q95.1) hX (hB.f F95) (by decide) z95 (fun m104 l104 f104 z104 => ?_)
                have F104 := F95.tr f104
                have z104 : MZ m104 l104 B n (pW B n 17 (q95.1)) := z104
                rcases s104 : pW B n 17 (q95.1) with e104 | q104
                · rw [s104] at z104
                  have HL : liA B n (p, N, t) = .inl e104 := by rw [liA_3 hls ht hc]; simp only [liP, s20, sK, s82, t89, s95, u95, s104, eb_r, eb_l]
                  refine j_aload_n dX13_readPerson_110 rfl rfl ?_
                  refine j_iconst (v := nI 3) dX13_readPerson_111 (by decide) ?_
                  refine cV13_273 (d1 := 3) rfl dX13_readPerson_112 (by decide) (Nat.le_of_ble_eq_true rfl) ?_
                  refine m_readLook3 (x := .inl e104) hX (hB.f F104) z104 (fun v105 m105 l105 f105 z105 g105 => ?_)
                  have z105 : MZ m105 l105 B n (.inl e104) := z105
                  have F105 := F104.tr f105
                  refine j_istore (lv2 := [_, _, _, _, _, _, _, _, _, _]) dX13_readPerson_115 (by decide) rfl rfl ?_
                  refine j_aload_n dX13_readPerson_117 rfl rfl ?_
                  refine j_ldcS13_276 dX13_readPerson_118 ?_
                  refine cV13_133 (d1 := 8) rfl dX13_readPerson_121 (by decide) (Nat.le_of_ble_eq_true rfl) ?_
                  refine m_needs (i := 18) (x := .inl e104) hX (hB.f F105) (by decide) z105 (fun m106 l106 f106 z106 => ?_)
                  have z106 : MZ m106 l106 B n (.inl e104) := z106
                  have F106 := F105.tr f106
                  refine j_aload_n dX13_readPerson_124 rfl rfl ?_
                  refine j_iconst (v := nI 2) dX13_readPerson_125 (by decide) ?_
                  refine cV13_273 (d1 := 3) rfl dX13_readPerson_126 (by decide) (Nat.le_of_ble_eq_true rfl) ?_
                  refine m_readLook2 (x := .inl e104) hX (hB.f F106) z106 (fun v107 m107 l107 f107 z107 g107 => ?_)
                  have z107 : MZ m107 l107 B n (.inl e104) := z107
                  have F107 := F106.tr f107
                  refine j_istore (lv2 := [_, _, _, _, _, _, _, _, _, _]) dX13_readPerson_129 (by decide) rfl rfl ?_
                  refine j_aload_n dX13_readPerson_131 rfl rfl ?_
                  refine gI13_79 rfl dX13_readPerson_132 ?_
                  rw [z107.1]
                  refine j_iconst (v := nI 5) dX13_readPerson_135 (by decide) ?_
                  refine j_icmp_ne (tgt := 140) dX13_readPerson_136 (by decide) (fun h136 => absurd (by decide) h136) (fun h136 => ?_)
                  refine j_vret rfl dX13_readPerson_139 ?_
                  exact hp m107 l107 (F107.fm M) (fun e9 he9 => by rw [HL] at he9; cases he9; exact z107) (fun s9 hs9 => by rw [HL] at hs9; cases hs9)
                · rw [s104] at z104
                  refine j_aload_n dX13_readPerson_110 rfl rfl ?_
                  refine j_iconst (v := nI 3) dX13_readPerson_111 (by decide) ?_
                  refine cV13_273 (d1 := 3) rfl dX13_readPerson_112 (by decide) (Nat.le_of_ble_eq_true rfl) ?_
                  refine m_readLook3 (x := .inr q104) hX (hB.f F104) z104 (fun v108 m108 l108 f108 z108 g108 => ?_)
                  have F108 := F104.tr f108
                  have z108 : MZ m108 l108 B n (es Prod.fst (pL B n 3 (q104))) := z108
                  rcases s108 : pL B n 3 (q104) with e108 | q108
                  · rw [s108] at z108
                    have z108 : MZ m108 l108 B n (.inl e108) := z108
                    have HL : liA B n (p, N, t) = .inl e108 := by rw [liA_3 hls ht hc]; simp only [liP, s20, sK, s82, t89, s95, u95, s104, s108, eb_r, eb_l]
                    refine j_istore (lv2 := [_, _, _, _, _, _, _, _, _, _]) dX13_readPerson_115 (by decide) rfl rfl ?_
                    refine j_aload_n dX13_readPerson_117 rfl rfl ?_
                    refine j_ldcS13_276 dX13_readPerson_118 ?_
                    refine cV13_133 (d1 := 8) rfl dX13_readPerson_121 (by decide) (Nat.le_of_ble_eq_true rfl) ?_
                    refine m_needs (i := 18) (x := .inl e108) hX (hB.f F108) (by decide) z108 (fun m109 l109 f109 z109 => ?_)
                    have z109 : MZ m109 l109 B n (.inl e108) := z109
                    have F109 := F108.tr f109
                    refine j_aload_n dX13_readPerson_124 rfl rfl ?_
                    refine j_iconst (v := nI 2) dX13_readPerson_125 (by decide) ?_
                    refine cV13_273 (d1 := 3) rfl dX13_readPerson_126 (by decide) (Nat.le_of_ble_eq_true rfl) ?_
                    refine m_readLook2 (x := .inl e108) hX (hB.f F109) z109 (fun v110 m110 l110 f110 z110 g110 => ?_)
                    have z110 : MZ m110 l110 B n (.inl e108) := z110
                    have F110 := F109.tr f110
                    refine j_istore (lv2 := [_, _, _, _, _, _, _, _, _, _]) dX13_readPerson_129 (by decide) rfl rfl ?_
                    refine j_aload_n dX13_readPerson_131 rfl rfl ?_
                    refine gI13_79 rfl dX13_readPerson_132 ?_
                    rw [z110.1]
                    refine j_iconst (v := nI 5) dX13_readPerson_135 (by decide) ?_
                    refine j_icmp_ne (tgt := 140) dX13_readPerson_136 (by decide) (fun h136 => absurd (by decide) h136) (fun h136 => ?_)
                    refine j_vret rfl dX13_readPerson_139 ?_
                    exact hp m110 l110 (F110.fm M) (fun e9 he9 => by rw [HL] at he9; cases he9; exact z110) (fun s9 hs9 => by rw [HL] at hs9; cases hs9)
                  · rw [s108] at z108
                    have z108 : MZ m108 l108 B n (.inr q108.1) := z108
                    have w108 : v108 = nI q108.2 := g108 q108 s108
                    subst w108
                    have b108 := pL_r s108
                    refine j_istore (lv2 := [_, _, _, _, _, _, _, _, _, _]) dX13_readPerson_115 (by decide) rfl rfl ?_
                    refine j_aload_n dX13_readPerson_117 rfl rfl ?_
                    refine j_ldcS13_276 dX13_readPerson_118 ?_
                    refine cV13_133 (d1 := 8) rfl dX13_readPerson_121 (by decide) (Nat.le_of_ble_eq_true rfl) ?_
                    refine m_needs (i := 18) (x := .inr q108.1) hX (hB.f F108) (by decide) z108 (fun m111 l111 f111 z111 => ?_)
                    have F111 := F108.tr f111
                    have z111 : MZ m111 l111 B n (pW B n 18 (q108.1)) := z111
                    rcases s111 : pW B n 18 (q108.1) with e111 | q111
                    · rw [s111] at z111
                      have HL : liA B n (p, N, t) = .inl e111 := by rw [liA_3 hls ht hc]; simp only [liP, s20, sK, s82, t89, s95, u95, s104, s108, s111, eb_r, eb_l]
                      refine j_aload_n dX13_readPerson_124 rfl rfl ?_
                      refine j_iconst (v := nI 2) dX13_readPerson_125 (by decide) ?_
                      refine cV13_273 (d1 := 3) rfl dX13_readPerson_126 (by decide) (Nat.le_of_ble_eq_true rfl) ?_
                      refine m_readLook2 (x := .inl e111) hX (hB.f F111) z111 (fun v112 m112 l112 f112 z112 g112 => ?_)
                      have z112 : MZ m112 l112 B n (.inl e111) := z112
                      have F112 := F111.tr f112
                      refine j_istore (lv2 := [_, _, _, _, _, _, _, _, _, _]) dX13_readPerson_129 (by decide) rfl rfl ?_
                      refine j_aload_n dX13_readPerson_131 rfl rfl ?_
                      refine gI13_79 rfl dX13_readPerson_132 ?_
                      rw [z112.1]
                      refine j_iconst (v := nI 5) dX13_readPerson_135 (by decide) ?_
                      refine j_icmp_ne (tgt := 140) dX13_readPerson_136 (by decide) (fun h136 => absurd (by decide) h136) (fun h136 => ?_)
                      refine j_vret rfl dX13_readPerson_139 ?_
                      exact hp m112 l112 (F112.fm M) (fun e9 he9 => by rw [HL] at he9; cases he9; exact z112) (fun s9 hs9 => by rw [HL] at hs9; cases hs9)
                    · rw [s111] at z111
                      refine j_aload_n dX13_readPerson_124 rfl rfl ?_
                      refine j_iconst (v := nI 2) dX13_readPerson_125 (by decide) ?_
                      refine cV13_273 (d1 := 3) rfl dX13_readPerson_126 (by decide) (Nat.le_of_ble_eq_true rfl) ?_
                      refine m_readLook2 (x := .inr q111) hX (hB.f F111) z111 (fun v113 m113 l113 f113 z113 g113 => ?_)
                      have F113 := F111.tr f113
                      have z113 : MZ m113 l113 B n (es Prod.fst (pL B n 2 (q111))) := z113
                      rcases s113 : pL B n 2 (q111) with e113 | q113
                      · rw [s113] at z113
                        have z113 : MZ m113 l113 B n (.inl e113) := z113
                        have HL : liA B n (p, N, t) = .inl e113 := by rw [liA_3 hls ht hc]; simp only [liP, s20, sK, s82, t89, s95, u95, s104, s108, s111, s113, eb_r, eb_l]
                        refine j_istore (lv2 := [_, _, _, _, _, _, _, _, _, _]) dX13_readPerson_129 (by decide) rfl rfl ?_
                        refine j_aload_n dX13_readPerson_131 rfl rfl ?_
                        refine gI13_79 rfl dX13_readPerson_132 ?_
                        rw [z113.1]
                        refine j_iconst (v := nI 5) dX13_readPerson_135 (by decide) ?_
                        refine j_icmp_ne (tgt := 140) dX13_readPerson_136 (by decide) (fun h136 => absurd (by decide) h136) (fun h136 => ?_)
                        refine j_vret rfl dX13_readPerson_139 ?_
                        exact hp m113 l113 (F113.fm M) (fun e9 he9 => by rw [HL] at he9; cases he9; exact z113) (fun s9 hs9 => by rw [HL] at hs9; cases hs9)
                      · rw [s113] at z113
                        have z113 : MZ m113 l113 B n (.inr q113.1) := z113
                        have w113 : v113 = nI q113.2 := g113 q113 s113
                        subst w113
                        have b113 := pL_r s113
                        refine j_istore (lv2 := [_, _, _, _, _, _, _, _, _, _]) dX13_readPerson_129 (by decide) rfl rfl ?_
                        refine j_aload_n dX13_readPerson_131 rfl rfl ?_
                        refine gI13_79 rfl dX13_readPerson_132 ?_
                        rw [z113.2.1.2.1]
                        refine j_iconst (v := nI 5) dX13_readPerson_135 (by decide) ?_
                        refine j_icmp_ne (tgt := 140) dX13_readPerson_136 (by decide) (fun h136 => ?_) (fun h136 => by exfalso; have h6 := sM_le (tS_le B n (q113.1)); rw [nI_eq (by omega) (by decide)] at h136; omega)
                        refine j_aload_n dX13_readPerson_140 rfl rfl ?_
                        refine gR13_157 rfl dX13_readPerson_141 hRd ?_
                        refine gI13_199 (kM0 hM) dX13_readPerson_144 ?_
                        rw [show m113 M 5 = nI (t 0 5) from (hR.f hM F113).1 5 (by decide)]
                        refine j_istore (lv2 := [_, _, _, _, _, _, _, _, _, _]) dX13_readPerson_147 (by decide) rfl rfl ?_
                        refine j_aload_n dX13_readPerson_149 rfl rfl ?_
                        refine j_lload_n dX13_readPerson_150 rfl rfl ?_
                        refine j_iconst (v := nI 1) dX13_readPerson_151 (by decide) ?_
                        refine j_iload dX13_readPerson_152 rfl ?_
                        refine cV13_246 (d1 := 1) rfl dX13_readPerson_154 (by decide) (Nat.le_of_ble_eq_true rfl) ?_
                        refine m_names (s := 3) (k := t 0 5) hM hY hRd (hN.f hM F113) h17 (fun nn114 => ?_)
                        have FF114 := (((((F113.fm M).pl N.1 (tH B n (tE B n p))).pu hM (a := M + 18) (j := N.1) (by omega) (nI (smc 3))).pu hM (a := M + 19) (j := N.1) (by omega) (nI (t 0 5))).pu hM (a := M) (j := 9) (by omega) (nI (N.1 + 1)))
                        have zz114 := (((z113.pl (a := M + 17) (j := N.1) (by omega) (tH B n (tE B n p))).pu (a := M + 18) (j := N.1) (by omega) (nI (smc 3))).pu (a := M + 19) (j := N.1) (by omega) (nI (t 0 5))).pu (a := M) (j := 9) (by omega) (nI (N.1 + 1))
                        have rr114 : RM _ M t := (((hR.f hM F113).o (a := M + 18) (j := N.1) (x := nI (smc 3)) (fun _ r _ _ => by omega) (fun q => by omega)).o (a := M + 19) (j := N.1) (x := nI (t 0 5)) (fun _ r _ _ => by omega) (fun q => by omega)).o (a := M) (j := 9) (x := nI (N.1 + 1)) (fun q => absurd rfl q) (fun _ => by omega)
                        generalize up (up (up m113 (M + 18) N.1 (nI (smc 3))) (M + 19) N.1 (nI (t 0 5))) M 9 (nI (N.1 + 1)) = y114 at nn114 FF114 zz114 rr114 ⊢
                        generalize upl l113 (M + 17) N.1 (tH B n (tE B n p)) = u114 at nn114 FF114 zz114 rr114 ⊢
                        refine j_aload_n dX13_readPerson_157 rfl rfl ?_
                        refine gR13_157 rfl dX13_readPerson_158 hRd ?_
                        refine gR13_278 (kM0 hM) dX13_readPerson_161 (xM4 hY) ?_
                        refine j_iload dX13_readPerson_164 rfl ?_
                        refine j_iload_n dX13_readPerson_166 rfl rfl ?_
                        refine j_iast (kM4 hM) (inT (lM4 hM) (by have := hg 0 5; show t 0 5 < 6; omega) (by decide)) dX13_readPerson_167 ?_
                        rw [nI_clamp (by have := hg 0 5; omega)]
                        have FF115 := FF114.pu hM (a := M + 4) (j := t 0 5) (by omega) (nI (1))
                        have zz115 := zz114.pu (a := M + 4) (j := t 0 5) (by omega) (nI (1))
                        have rr115 := rr114.put (r := 4) (i := t 0 5) (x := 1) (by decide) (by decide)
                        have nn115 := nn114.pu (r := 4) (i := t 0 5) (by decide) (fun q => absurd q (by decide)) (nI (1))
                        generalize up y114 (M + 4) (t 0 5) (nI (1)) = y115 at FF115 zz115 rr115 nn115 ⊢
                        refine j_aload_n dX13_readPerson_168 rfl rfl ?_
                        refine gR13_157 rfl dX13_readPerson_169 hRd ?_
                        refine gR13_281 (kM0 hM) dX13_readPerson_172 (xM5 hY) ?_
                        refine j_iload dX13_readPerson_175 rfl ?_
                        refine j_iload dX13_readPerson_177 rfl ?_
                        refine j_iast (kM5 hM) (inT (lM5 hM) (by have := hg 0 5; show t 0 5 < 6; omega) (by decide)) dX13_readPerson_179 ?_
                        rw [nI_clamp (by have := hg 0 5; omega)]
                        have FF116 := FF115.pu hM (a := M + 5) (j := t 0 5) (by omega) (nI (q89))
                        have zz116 := zz115.pu (a := M + 5) (j := t 0 5) (by omega) (nI (q89))
                        have rr116 := rr115.put (r := 5) (i := t 0 5) (x := q89) (by decide) (by decide)
                        have nn116 := nn115.pu (r := 5) (i := t 0 5) (by decide) (fun q => absurd q (by decide)) (nI (q89))
                        generalize up y115 (M + 5) (t 0 5) (nI (q89)) = y116 at FF116 zz116 rr116 nn116 ⊢
                        refine j_aload_n dX13_readPerson_180 rfl rfl ?_
                        refine gR13_157 rfl dX13_readPerson_181 hRd ?_
                        refine gR13_283 (kM0 hM) dX13_readPerson_184 (xM6 hY) ?_
                        refine j_iload dX13_readPerson_187 rfl ?_
                        refine j_iload dX13_readPerson_189 rfl ?_
                        refine j_iast (kM6 hM) (inT (lM6 hM) (by have := hg 0 5; show t 0 5 < 6; omega) (by decide)) dX13_readPerson_191 ?_
                        rw [nI_clamp (by have := hg 0 5; omega)]
                        have FF117 := FF116.pu hM (a := M + 6) (j := t 0 5) (by omega) (nI (q95.2))
                        have zz117 := zz116.pu (a := M + 6) (j := t 0 5) (by omega) (nI (q95.2))
                        have rr117 := rr116.put (r := 6) (i := t 0 5) (x := q95.2) (by decide) (by decide)
                        have nn117 := nn116.pu (r := 6) (i := t 0 5) (by decide) (fun q => absurd q (by decide)) (nI (q95.2))
                        generalize up y116 (M + 6) (t 0 5) (nI (q95.2)) = y117 at FF117 zz117 rr117 nn117 ⊢
                        refine j_iconst (v := nI 0) dX13_readPerson_192 (by decide) ?_
                        refine j_istore (lv2 := [_, _, _, _, _, _, _, _, _, _]) dX13_readPerson_193 (by decide) rfl rfl ?_
                        refine j_iload dX13_readPerson_195 rfl ?_
                        refine j_iconst (v := nI 5) dX13_readPerson_197 (by decide) ?_
                        refine j_icmp_ge (tgt := 253) dX13_readPerson_198 (by decide) (fun h198 => absurd h198 (by decide)) (fun h198 => ?_)
                        refine j_aload_n dX13_readPerson_201 rfl rfl ?_
                        refine gR13_157 rfl dX13_readPerson_202 hRd ?_
                        refine gR13_285 (kM0 hM) dX13_readPerson_205 (xM7 hY) ?_
                        refine j_iconst (v := nI 5) dX13_readPerson_208 (by decide) ?_
                        refine j_iload dX13_readPerson_209 rfl ?_
                        refine j_imul dX13_readPerson_211 ?_
                        rw [pk_mul]
                        refine j_iload dX13_readPerson_212 rfl ?_
                        refine j_iadd dX13_readPerson_214 ?_
                        rw [nI_add]
                        refine j_iload dX13_readPerson_215 rfl ?_
                        refine j_iconst (v := nI 3) dX13_readPerson_217 (by decide) ?_
                        refine j_icmp_ge (tgt := 235) dX13_readPerson_218 (by decide) (fun h218 => absurd h218 (by decide)) (fun h218 => ?_)
                        refine j_iload dX13_readPerson_221 rfl ?_
                        refine j_iconst (v := nI 2) dX13_readPerson_223 (by decide) ?_
                        refine j_iconst (v := nI 2) dX13_readPerson_224 (by decide) ?_
                        refine j_iload dX13_readPerson_225 rfl ?_
                        refine j_isub dX13_readPerson_227 ?_
                        rw [show nI 2 - nI 0 = nI 2 by decide]
                        refine j_imul dX13_readPerson_228 ?_
                        rw [show nI 2 * nI 2 = nI 4 by decide]
                        refine j_ishr dX13_readPerson_229 ?_
                        refine j_iconst (v := nI 3) dX13_readPerson_230 (by decide) ?_
                        refine j_iand dX13_readPerson_231 ?_
                        rw [sh4 _ (by have := b108; show q108.2 < 64; omega)]
                        refine j_goto (tgt := 246) dX13_readPerson_232 (by decide) ?_
                        refine j_iast (kM7 hM) (inT (lM7 hM) (by have := hg 0 5; show (5 * (t 0 5)) + 0 < 30; omega) (by decide)) dX13_readPerson_246 ?_
                        rw [nI_clamp (by have := hg 0 5; omega)]
                        have FF118 := FF117.pu hM (a := M + 7) (j := (5 * (t 0 5)) + 0) (by omega) (nI (q108.2 / 4 / 4 % 4))
                        have zz118 := zz117.pu (a := M + 7) (j := (5 * (t 0 5)) + 0) (by omega) (nI (q108.2 / 4 / 4 % 4))
                        have rr118 := rr117.put (r := 7) (i := (5 * (t 0 5)) + 0) (x := q108.2 / 4 / 4 % 4) (by decide) (by decide)
                        have nn118 := nn117.pu (r := 7) (i := (5 * (t 0 5)) + 0) (by decide) (fun q => absurd q (by decide)) (nI (q108.2 / 4 / 4 % 4))
                        generalize up y117 (M + 7) ((5 * (t 0 5)) + 0) (nI (q108.2 / 4 / 4 % 4)) = y118 at FF118 zz118 rr118 nn118 ⊢
                        refine j_iinc1 (lv2 := [_, _, _, _, _, _, _, _, _, _]) dX13_readPerson_247 rfl (by decide) rfl rfl ?_
                        rw [show nI 0 + 1 = nI 1 from rfl]
                        refine j_goto (tgt := 195) dX13_readPerson_250 (by decide) ?_
                        refine j_iload dX13_readPerson_195 rfl ?_
                        refine j_iconst (v := nI 5) dX13_readPerson_197 (by decide) ?_
                        refine j_icmp_ge (tgt := 253) dX13_readPerson_198 (by decide) (fun h198 => absurd h198 (by decide)) (fun h198 => ?_)
                        refine j_aload_n dX13_readPerson_201 rfl rfl ?_
                        refine gR13_157 rfl dX13_readPerson_202 hRd ?_
                        refine gR13_285 (kM0 hM) dX13_readPerson_205 (xM7 hY) ?_
                        refine j_iconst (v := nI 5) dX13_readPerson_208 (by decide) ?_
                        refine j_iload dX13_readPerson_209 rfl ?_
                        refine j_imul dX13_readPerson_211 ?_
                        rw [pk_mul]
                        refine j_iload dX13_readPerson_212 rfl ?_
                        refine j_iadd dX13_readPerson_214 ?_
                        rw [nI_add]
                        refine j_iload dX13_readPerson_215 rfl ?_
                        refine j_iconst (v := nI 3) dX13_readPerson_217 (by decide) ?_
                        refine j_icmp_ge (tgt := 235) dX13_readPerson_218 (by decide) (fun h218 => absurd h218 (by decide)) (fun h218 => ?_)
                        refine j_iload dX13_readPerson_221 rfl ?_
                        refine j_iconst (v := nI 2) dX13_readPerson_223 (by decide) ?_
                        refine j_iconst (v := nI 2) dX13_readPerson_224 (by decide) ?_
                        refine j_iload dX13_readPerson_225 rfl ?_
                        refine j_isub dX13_readPerson_227 ?_
                        rw [show nI 2 - nI 1 = nI 1 by decide]
                        refine j_imul dX13_readPerson_228 ?_
                        rw [show nI 2 * nI 1 = nI 2 by decide]
                        refine j_ishr dX13_readPerson_229 ?_
                        refine j_iconst (v := nI 3) dX13_readPerson_230 (by decide) ?_
                        refine j_iand dX13_readPerson_231 ?_
                        rw [sh2 _ (by have := b108; show q108.2 < 64; omega)]
                        refine j_goto (tgt := 246) dX13_readPerson_232 (by decide) ?_
                        refine j_iast (kM7 hM) (inT (lM7 hM) (by have := hg 0 5; show (5 * (t 0 5)) + 1 < 30; omega) (by decide)) dX13_readPerson_246 ?_
                        rw [nI_clamp (by have := hg 0 5; omega)]
                        have FF119 := FF118.pu hM (a := M + 7) (j := (5 * (t 0 5)) + 1) (by omega) (nI (q108.2 / 4 % 4))
                        have zz119 := zz118.pu (a := M + 7) (j := (5 * (t 0 5)) + 1) (by omega) (nI (q108.2 / 4 % 4))
                        have rr119 := rr118.put (r := 7) (i := (5 * (t 0 5)) + 1) (x := q108.2 / 4 % 4) (by decide) (by decide)
                        have nn119 := nn118.pu (r := 7) (i := (5 * (t 0 5)) + 1) (by decide) (fun q => absurd q (by decide)) (nI (q108.2 / 4 % 4))
                        generalize up y118 (M + 7) ((5 * (t 0 5)) + 1) (nI (q108.2 / 4 % 4)) = y119 at FF119 zz119 rr119 nn119 ⊢
                        refine j_iinc1 (lv2 := [_, _, _, _, _, _, _, _, _, _]) dX13_readPerson_247 rfl (by decide) rfl rfl ?_
                        rw [show nI 1 + 1 = nI 2 from rfl]
                        refine j_goto (tgt := 195) dX13_readPerson_250 (by decide) ?_
                        refine j_iload dX13_readPerson_195 rfl ?_
                        refine j_iconst (v := nI 5) dX13_readPerson_197 (by decide) ?_
                        refine j_icmp_ge (tgt := 253) dX13_readPerson_198 (by decide) (fun h198 => absurd h198 (by decide)) (fun h198 => ?_)
                        refine j_aload_n dX13_readPerson_201 rfl rfl ?_
                        refine gR13_157 rfl dX13_readPerson_202 hRd ?_
                        refine gR13_285 (kM0 hM) dX13_readPerson_205 (xM7 hY) ?_
                        refine j_iconst (v := nI 5) dX13_readPerson_208 (by decide) ?_
                        refine j_iload dX13_readPerson_209 rfl ?_
                        refine j_imul dX13_readPerson_211 ?_
                        rw [pk_mul]
                        refine j_iload dX13_readPerson_212 rfl ?_
                        refine j_iadd dX13_readPerson_214 ?_
                        rw [nI_add]
                        refine j_iload dX13_readPerson_215 rfl ?_
                        refine j_iconst (v := nI 3) dX13_readPerson_217 (by decide) ?_
                        refine j_icmp_ge (tgt := 235) dX13_readPerson_218 (by decide) (fun h218 => absurd h218 (by decide)) (fun h218 => ?_)
                        refine j_iload dX13_readPerson_221 rfl ?_
                        refine j_iconst (v := nI 2) dX13_readPerson_223 (by decide) ?_
                        refine j_iconst (v := nI 2) dX13_readPerson_224 (by decide) ?_
                        refine j_iload dX13_readPerson_225 rfl ?_
                        refine j_isub dX13_readPerson_227 ?_
                        rw [show nI 2 - nI 2 = nI 0 by decide]
                        refine j_imul dX13_readPerson_228 ?_
                        rw [show nI 2 * nI 0 = nI 0 by decide]
                        refine j_ishr dX13_readPerson_229 ?_
                        refine j_iconst (v := nI 3) dX13_readPerson_230 (by decide) ?_
                        refine j_iand dX13_readPerson_231 ?_
                        rw [sh0 _ (by have := b108; show q108.2 < 64; omega)]
                        refine j_goto (tgt := 246) dX13_readPerson_232 (by decide) ?_
                        refine j_iast (kM7 hM) (inT (lM7 hM) (by have := hg 0 5; show (5 * (t 0 5)) + 2 < 30; omega) (by decide)) dX13_readPerson_246 ?_
                        rw [nI_clamp (by have := hg 0 5; omega)]
                        have FF120 := FF119.pu hM (a := M + 7) (j := (5 * (t 0 5)) + 2) (by omega) (nI (q108.2 % 4))
                        have zz120 := zz119.pu (a := M + 7) (j := (5 * (t 0 5)) + 2) (by omega) (nI (q108.2 % 4))
                        have rr120 := rr119.put (r := 7) (i := (5 * (t 0 5)) + 2) (x := q108.2 % 4) (by decide) (by decide)
                        have nn120 := nn119.pu (r := 7) (i := (5 * (t 0 5)) + 2) (by decide) (fun q => absurd q (by decide)) (nI (q108.2 % 4))
                        generalize up y119 (M + 7) ((5 * (t 0 5)) + 2) (nI (q108.2 % 4)) = y120 at FF120 zz120 rr120 nn120 ⊢
                        refine j_iinc1 (lv2 := [_, _, _, _, _, _, _, _, _, _]) dX13_readPerson_247 rfl (by decide) rfl rfl ?_
                        rw [show nI 2 + 1 = nI 3 from rfl]
                        refine j_goto (tgt := 195) dX13_readPerson_250 (by decide) ?_
                        refine j_iload dX13_readPerson_195 rfl ?_
                        refine j_iconst (v := nI 5) dX13_readPerson_197 (by decide) ?_
                        refine j_icmp_ge (tgt := 253) dX13_readPerson_198 (by decide) (fun h198 => absurd h198 (by decide)) (fun h198 => ?_)
                        refine j_aload_n dX13_readPerson_201 rfl rfl ?_
                        refine gR13_157 rfl dX13_readPerson_202 hRd ?_
                        refine gR13_285 (kM0 hM) dX13_readPerson_205 (xM7 hY) ?_
                        refine j_iconst (v := nI 5) dX13_readPerson_208 (by decide) ?_
                        refine j_iload dX13_readPerson_209 rfl ?_
                        refine j_imul dX13_readPerson_211 ?_
                        rw [pk_mul]
                        refine j_iload dX13_readPerson_212 rfl ?_
                        refine j_iadd dX13_readPerson_214 ?_
                        rw [nI_add]
                        refine j_iload dX13_readPerson_215 rfl ?_
                        refine j_iconst (v := nI 3) dX13_readPerson_217 (by decide) ?_
                        refine j_icmp_ge (tgt := 235) dX13_readPerson_218 (by decide) (fun h218 => ?_) (fun h218 => absurd (by decide) h218)
                        refine j_iload dX13_readPerson_235 rfl ?_
                        refine j_iconst (v := nI 2) dX13_readPerson_237 (by decide) ?_
                        refine j_iconst (v := nI 4) dX13_readPerson_238 (by decide) ?_
                        refine j_iload dX13_readPerson_239 rfl ?_
                        refine j_isub dX13_readPerson_241 ?_
                        rw [show nI 4 - nI 3 = nI 1 by decide]
                        refine j_imul dX13_readPerson_242 ?_
                        rw [show nI 2 * nI 1 = nI 2 by decide]
                        refine j_ishr dX13_readPerson_243 ?_
                        refine j_iconst (v := nI 3) dX13_readPerson_244 (by decide) ?_
                        refine j_iand dX13_readPerson_245 ?_
                        rw [sh2 _ (by have := b113; show q113.2 < 64; omega)]
                        refine j_iast (kM7 hM) (inT (lM7 hM) (by have := hg 0 5; show (5 * (t 0 5)) + 3 < 30; omega) (by decide)) dX13_readPerson_246 ?_
                        rw [nI_clamp (by have := hg 0 5; omega)]
                        have FF121 := FF120.pu hM (a := M + 7) (j := (5 * (t 0 5)) + 3) (by omega) (nI (q113.2 / 4 % 4))
                        have zz121 := zz120.pu (a := M + 7) (j := (5 * (t 0 5)) + 3) (by omega) (nI (q113.2 / 4 % 4))
                        have rr121 := rr120.put (r := 7) (i := (5 * (t 0 5)) + 3) (x := q113.2 / 4 % 4) (by decide) (by decide)
                        have nn121 := nn120.pu (r := 7) (i := (5 * (t 0 5)) + 3) (by decide) (fun q => absurd q (by decide)) (nI (q113.2 / 4 % 4))
                        generalize up y120 (M + 7) ((5 * (t 0 5)) + 3) (nI (q113.2 / 4 % 4)) = y121 at FF121 zz121 rr121 nn121 ⊢
                        refine j_iinc1 (lv2 := [_, _, _, _, _, _, _, _, _, _]) dX13_readPerson_247 rfl (by decide) rfl rfl ?_
                        rw [show nI 3 + 1 = nI 4 from rfl]
                        refine j_goto (tgt := 195) dX13_readPerson_250 (by decide) ?_
                        refine j_iload dX13_readPerson_195 rfl ?_
                        refine j_iconst (v := nI 5) dX13_readPerson_197 (by decide) ?_
                        refine j_icmp_ge (tgt := 253) dX13_readPerson_198 (by decide) (fun h198 => absurd h198 (by decide)) (fun h198 => ?_)
                        refine j_aload_n dX13_readPerson_201 rfl rfl ?_
                        refine gR13_157 rfl dX13_readPerson_202 hRd ?_
                        refine gR13_285 (kM0 hM) dX13_readPerson_205 (xM7 hY) ?_
                        refine j_iconst (v := nI 5) dX13_readPerson_208 (by decide) ?_
                        refine j_iload dX13_readPerson_209 rfl ?_
                        refine j_imul dX13_readPerson_211 ?_
                        rw [pk_mul]
                        refine j_iload dX13_readPerson_212 rfl ?_
                        refine j_iadd dX13_readPerson_214 ?_
                        rw [nI_add]
                        refine j_iload dX13_readPerson_215 rfl ?_
                        refine j_iconst (v := nI 3) dX13_readPerson_217 (by decide) ?_
                        refine j_icmp_ge (tgt := 235) dX13_readPerson_218 (by decide) (fun h218 => ?_) (fun h218 => absurd (by decide) h218)
                        refine j_iload dX13_readPerson_235 rfl ?_
                        refine j_iconst (v := nI 2) dX13_readPerson_237 (by decide) ?_
                        refine j_iconst (v := nI 4) dX13_readPerson_238 (by decide) ?_
                        refine j_iload dX13_readPerson_239 rfl ?_
                        refine j_isub dX13_readPerson_241 ?_
                        rw [show nI 4 - nI 4 = nI 0 by decide]
                        refine j_imul dX13_readPerson_242 ?_
                        rw [show nI 2 * nI 0 = nI 0 by decide]
                        refine j_ishr dX13_readPerson_243 ?_
                        refine j_iconst (v := nI 3) dX13_readPerson_244 (by decide) ?_
                        refine j_iand dX13_readPerson_245 ?_
                        rw [sh0 _ (by have := b113; show q113.2 < 64; omega)]
                        refine j_iast (kM7 hM) (inT (lM7 hM) (by have := hg 0 5; show (5 * (t 0 5)) + 4 < 30; omega) (by decide)) dX13_readPerson_246 ?_
                        rw [nI_clamp (by have := hg 0 5; omega)]
                        have FF122 := FF121.pu hM (a := M + 7) (j := (5 * (t 0 5)) + 4) (by omega) (nI (q113.2 % 4))
                        have zz122 := zz121.pu (a := M + 7) (j := (5 * (t 0 5)) + 4) (by omega) (nI (q113.2 % 4))
                        have rr122 := rr121.put (r := 7) (i := (5 * (t 0 5)) + 4) (x := q113.2 % 4) (by decide) (by decide)
                        have nn122 := nn121.pu (r := 7) (i := (5 * (t 0 5)) + 4) (by decide) (fun q => absurd q (by decide)) (nI (q113.2 % 4))
                        generalize up y121 (M + 7) ((5 * (t 0 5)) + 4) (nI (q113.2 % 4)) = y122 at FF122 zz122 rr122 nn122 ⊢
                        refine j_iinc1 (lv2 := [_, _, _, _, _, _, _, _, _, _]) dX13_readPerson_247 rfl (by decide) rfl rfl ?_
                        rw [show nI 4 + 1 = nI 5 from rfl]
                        refine j_goto (tgt := 195) dX13_readPerson_250 (by decide) ?_
                        refine j_iload dX13_readPerson_195 rfl ?_
                        refine j_iconst (v := nI 5) dX13_readPerson_197 (by decide) ?_
                        refine j_icmp_ge (tgt := 253) dX13_readPerson_198 (by decide) (fun h198 => ?_) (fun h198 => absurd (by decide) h198)
                        rw [pMk_eq] at rr122
                        refine j_aload_n dX13_readPerson_253 rfl rfl ?_
                        refine gR13_157 rfl dX13_readPerson_254 hRd ?_
                        refine j_dup dX13_readPerson_257 rfl ?_
                        refine gI13_199 (kM0 hM) dX13_readPerson_258 ?_
                        rw [show y122 M 5 = nI (t 0 5) from rr122.1 5 (by decide)]
                        refine j_iconst (v := nI 1) dX13_readPerson_261 (by decide) ?_
                        refine j_iadd dX13_readPerson_262 ?_
                        rw [nI_add]
                        refine pI13_199 (kM0 hM) dX13_readPerson_263 ?_
                        have FF123 := FF122.pu hM (a := M) (j := 5) (by omega) (nI ((t 0 5) + 1))
                        have zz123 := zz122.pu (a := M) (j := 5) (by omega) (nI ((t 0 5) + 1))
                        have rr123 := rr122.put0 (i := 5) (x := (t 0 5) + 1)
                        have nn123 := nn122.pu (r := 0) (i := 5) (by decide) (fun _ => by decide) (nI ((t 0 5) + 1))
                        rw [Nat.add_zero] at nn123
                        generalize up y122 (M) (5) (nI ((t 0 5) + 1)) = y123 at FF123 zz123 rr123 nn123 ⊢
                        refine j_vret rfl dX13_readPerson_266 ?_
                        have HL : liA B n (p, N, t) = .inr (q113.1, q20.2, ut (pMk (ut (ut (ut t 4 (t 0 5) 1) 5 (t 0 5) q89) 6 (t 0 5) q95.2) (t 0 5) q108.2 q113.2) 0 5 (t 0 5 + 1)) := by rw [liA_3 hls ht hc]; simp only [liP, s20, sK, s82, t89, s95, u95, s104, s108, s111, s113, eb_r, eb_l]
                        refine hp y123 u114 FF123 (fun e9 he9 => by rw [HL] at he9; cases he9) (fun s9 hs9 => ?_)
                        rw [HL] at hs9
                        cases hs9
                        exact ⟨zz123, rr123, (by rw [eq20]; exact nn123)⟩
      · refine j_iconst (v := nI 0) dX13_readPerson_28 (by decide) ?_
        refine j_goto (tgt := 61) dX13_readPerson_29 (by decide) ?_
        refine j_istore_n (lv2 := [_, _, _, _, _, _, _, _, _, _]) dX13_readPerson_61 rfl (by decide) rfl rfl ?_
        refine j_iload_n dX13_readPerson_62 rfl rfl ?_
        refine j_iconst (v := -1) dX13_readPerson_63 (by decide) ?_
        refine j_icmp_ne (tgt := 72) dX13_readPerson_64 (by decide) (fun h64 => ?_) (fun h64 => absurd h64 (by decide))
        have tK : tS B n (q20.1) = 1 := by
          rw [Bool.not_eq_false, decide_eq_true_eq] at h25; exact h25.1
        have sK : pK B n (q20.1) = .inr (tE B n (q20.1), 0) := by
          rw [Bool.not_eq_false, decide_eq_true_eq] at h25
          unfold pK; rw [if_pos h25]
        refine j_aload_n dX13_readPerson_72 rfl rfl ?_
        refine cV13_118 (d1 := 2) rfl dX13_readPerson_73 (by decide) (Nat.le_of_ble_eq_true rfl) ?_
        refine m_goesX (x := .inr q20.1) hX (hB.f F20) z20 (fun q h => by cases h; omega) (fun m124 l124 f124 z124 => ?_)
        have F124 := F20.tr f124
        have z124 : MZ m124 l124 B n (.inr (tE B n (q20.1))) := z124
        refine j_aload_n dX13_readPerson_76 rfl rfl ?_
        refine j_ldcS13_267 dX13_readPerson_77 ?_
        refine cV13_133 (d1 := 8) rfl dX13_readPerson_80 (by decide) (Nat.le_of_ble_eq_true rfl) ?_
        refine m_needs (i := 15) (x := .inr (tE B n (q20.1))) hX (hB.f F124) (by decide) z124 (fun m125 l125 f125 z125 => ?_)
        have F125 := F124.tr f125
        have z125 : MZ m125 l125 B n (pW B n 15 (tE B n (q20.1))) := z125
        rcases s125 : pW B n 15 (tE B n (q20.1)) with e125 | q125
        · rw [s125] at z125
          have HL : liA B n (p, N, t) = .inl e125 := by rw [liA_3 hls ht hc]; simp only [liP, s20, sK, s125, eb_r, eb_l]
          refine j_aload_n dX13_readPerson_83 rfl rfl ?_
          refine j_iconst (v := nI 0) dX13_readPerson_84 (by decide) ?_
          refine cV13_254 (d1 := 10) rfl dX13_readPerson_85 (by decide) (Nat.le_of_ble_eq_true rfl) ?_
          refine m_readKnown (s := 1) (x := .inl e125) hX hM hY hRd (hB.f F125) (hN.f hM F125) hN2 (by decide) z125 (fun v126 m126 l126 f126 z126 g126 => ?_)
          have z126 : MZ m126 l126 B n (.inl e125) := z126
          have F126 := F125.tr f126
          refine j_istore (lv2 := [_, _, _, _, _, _, _, _, _, _]) dX13_readPerson_88 (by decide) rfl rfl ?_
          refine j_aload_n dX13_readPerson_90 rfl rfl ?_
          refine j_ldcS13_269 dX13_readPerson_91 ?_
          refine j_bipush (v := nI 20) dX13_readPerson_94 (by decide) ?_
          refine j_bipush (v := nI 99) dX13_readPerson_96 (by decide) ?_
          refine cV13_225 (d1 := 9) rfl dX13_readPerson_98 (by decide) (Nat.le_of_ble_eq_true rfl) ?_
          refine m_readPart (i := 16) (lo := 20) (hi := 99) (x := .inl e125) hX (hB.f F126) (by decide) (by decide) (by decide) z126 (fun v127 m127 l127 f127 z127 g127 => ?_)
          have z127 : MZ m127 l127 B n (.inl e125) := z127
          have F127 := F126.tr f127
          refine j_istore (lv2 := [_, _, _, _, _, _, _, _, _, _]) dX13_readPerson_101 (by decide) rfl rfl ?_
          refine j_aload_n dX13_readPerson_103 rfl rfl ?_
          refine j_ldcS13_271 dX13_readPerson_104 ?_
          refine cV13_133 (d1 := 8) rfl dX13_readPerson_107 (by decide) (Nat.le_of_ble_eq_true rfl) ?_
          refine m_needs (i := 17) (x := .inl e125) hX (hB.f F127) (by decide) z127 (fun m128 l128 f128 z128 => ?_)
          have z128 : MZ m128 l128 B n (.inl e125) := z128
          have F128 := F127.tr f128
          refine j_aload_n dX13_readPerson_110 rfl rfl ?_
          refine j_iconst (v := nI 3) dX13_readPerson_111 (by decide) ?_
          refine cV13_273 (d1 := 3) rfl dX13_readPerson_112 (by decide) (Nat.le_of_ble_eq_true rfl) ?_
          refine m_readLook3 (x := .inl e125) hX (hB.f F128) z128 (fun v129 m129 l129 f129 z129 g129 => ?_)
          have z129 : MZ m129 l129 B n (.inl e125) := z129
          have F129 := F128.tr f129
          refine j_istore (lv2 := [_, _, _, _, _, _, _, _, _, _]) dX13_readPerson_115 (by decide) rfl rfl ?_
          refine j_aload_n dX13_readPerson_117 rfl rfl ?_
          refine j_ldcS13_276 dX13_readPerson_118 ?_
          refine cV13_133 (d1 := 8) rfl dX13_readPerson_121 (by decide) (Nat.le_of_ble_eq_true rfl) ?_
          refine m_needs (i := 18) (x := .inl e125) hX (hB.f F129) (by decide) z129 (fun m130 l130 f130 z130 => ?_)
          have z130 : MZ m130 l130 B n (.inl e125) := z130
          have F130 := F129.tr f130
          refine j_aload_n dX13_readPerson_124 rfl rfl ?_
          refine j_iconst (v := nI 2) dX13_readPerson_125 (by decide) ?_
          refine cV13_273 (d1 := 3) rfl dX13_readPerson_126 (by decide) (Nat.le_of_ble_eq_true rfl) ?_
          refine m_readLook2 (x := .inl e125) hX (hB.f F130) z130 (fun v131 m131 l131 f131 z131 g131 => ?_)
          have z131 : MZ m131 l131 B n (.inl e125) := z131
          have F131 := F130.tr f131
          refine j_istore (lv2 := [_, _, _, _, _, _, _, _, _, _]) dX13_readPerson_129 (by decide) rfl rfl ?_
          refine j_aload_n dX13_readPerson_131 rfl rfl ?_
          refine gI13_79 rfl dX13_readPerson_132 ?_
          rw [z131.1]
          refine j_iconst (v := nI 5) dX13_readPerson_135 (by decide) ?_
          refine j_icmp_ne (tgt := 140) dX13_readPerson_136 (by decide) (fun h136 => absurd (by decide) h136) (fun h136 => ?_)
          refine j_vret rfl dX13_readPerson_139 ?_
          exact hp m131 l131 (F131.fm M) (fun e9 he9 => by rw [HL] at he9; cases he9; exact z131) (fun s9 hs9 => by rw [HL] at hs9; cases hs9)
        · rw [s125] at z125
          refine j_aload_n dX13_readPerson_83 rfl rfl ?_
          refine j_iconst (v := nI 0) dX13_readPerson_84 (by decide) ?_
          refine cV13_254 (d1 := 10) rfl dX13_readPerson_85 (by decide) (Nat.le_of_ble_eq_true rfl) ?_
          refine m_readKnown (s := 1) (x := .inr q125) hX hM hY hRd (hB.f F125) (hN.f hM F125) hN2 (by decide) z125 (fun v132 m132 l132 f132 z132 g132 => ?_)
          have F132 := F125.tr f132
          have z132 : MZ m132 l132 B n (es (fun _ => tE B n (q125)) (fN B n N 1 (q125))) := z132
          rcases s132 : fN B n N 1 (q125) with e132 | q132
          · have t132 := s132
            rw [← fN_ad (h := tH B n (tE B n p)) (s := 3) (k := t 0 5) (by decide), show adN N (tH B n (tE B n p)) 3 (t 0 5) = q20.2 by rw [eq20]] at t132
            rw [s132] at z132
            have z132 : MZ m132 l132 B n (.inl e132) := z132
            have HL : liA B n (p, N, t) = .inl e132 := by rw [liA_3 hls ht hc]; simp only [liP, s20, sK, s125, t132, eb_r, eb_l]
            refine j_istore (lv2 := [_, _, _, _, _, _, _, _, _, _]) dX13_readPerson_88 (by decide) rfl rfl ?_
            refine j_aload_n dX13_readPerson_90 rfl rfl ?_
            refine j_ldcS13_269 dX13_readPerson_91 ?_
            refine j_bipush (v := nI 20) dX13_readPerson_94 (by decide) ?_
            refine j_bipush (v := nI 99) dX13_readPerson_96 (by decide) ?_
            refine cV13_225 (d1 := 9) rfl dX13_readPerson_98 (by decide) (Nat.le_of_ble_eq_true rfl) ?_
            refine m_readPart (i := 16) (lo := 20) (hi := 99) (x := .inl e132) hX (hB.f F132) (by decide) (by decide) (by decide) z132 (fun v133 m133 l133 f133 z133 g133 => ?_)
            have z133 : MZ m133 l133 B n (.inl e132) := z133
            have F133 := F132.tr f133
            refine j_istore (lv2 := [_, _, _, _, _, _, _, _, _, _]) dX13_readPerson_101 (by decide) rfl rfl ?_
            refine j_aload_n dX13_readPerson_103 rfl rfl ?_
            refine j_ldcS13_271 dX13_readPerson_104 ?_
            refine cV13_133 (d1 := 8) rfl dX13_readPerson_107 (by decide) (Nat.le_of_ble_eq_true rfl) ?_
            refine m_needs (i := 17) (x := .inl e132) hX (hB.f F133) (by decide) z133 (fun m134 l134 f134 z134 => ?_)
            have z134 : MZ m134 l134 B n (.inl e132) := z134
            have F134 := F133.tr f134
            refine j_aload_n dX13_readPerson_110 rfl rfl ?_
            refine j_iconst (v := nI 3) dX13_readPerson_111 (by decide) ?_
            refine cV13_273 (d1 := 3) rfl dX13_readPerson_112 (by decide) (Nat.le_of_ble_eq_true rfl) ?_
            refine m_readLook3 (x := .inl e132) hX (hB.f F134) z134 (fun v135 m135 l135 f135 z135 g135 => ?_)
            have z135 : MZ m135 l135 B n (.inl e132) := z135
            have F135 := F134.tr f135
            refine j_istore (lv2 := [_, _, _, _, _, _, _, _, _, _]) dX13_readPerson_115 (by decide) rfl rfl ?_
            refine j_aload_n dX13_readPerson_117 rfl rfl ?_
            refine j_ldcS13_276 dX13_readPerson_118 ?_
            refine cV13_133 (d1 := 8) rfl dX13_readPerson_121 (by decide) (Nat.le_of_ble_eq_true rfl) ?_
            refine m_needs (i := 18) (x := .inl e132) hX (hB.f F135) (by decide) z135 (fun m136 l136 f136 z136 => ?_)
            have z136 : MZ m136 l136 B n (.inl e132) := z136
            have F136 := F135.tr f136
            refine j_aload_n dX13_readPerson_124 rfl rfl ?_
            refine j_iconst (v := nI 2) dX13_readPerson_125 (by decide) ?_
            refine cV13_273 (d1 := 3) rfl dX13_readPerson_126 (by decide) (Nat.le_of_ble_eq_true rfl) ?_
            refine m_readLook2 (x := .inl e132) hX (hB.f F136) z136 (fun v137 m137 l137 f137 z137 g137 => ?_)
            have z137 : MZ m137 l137 B n (.inl e132) := z137
            have F137 := F136.tr f137
            refine j_istore (lv2 := [_, _, _, _, _, _, _, _, _, _]) dX13_readPerson_129 (by decide) rfl rfl ?_
            refine j_aload_n dX13_readPerson_131 rfl rfl ?_
            refine gI13_79 rfl dX13_readPerson_132 ?_
            rw [z137.1]
            refine j_iconst (v := nI 5) dX13_readPerson_135 (by decide) ?_
            refine j_icmp_ne (tgt := 140) dX13_readPerson_136 (by decide) (fun h136 => absurd (by decide) h136) (fun h136 => ?_)
            refine j_vret rfl dX13_readPerson_139 ?_
            exact hp m137 l137 (F137.fm M) (fun e9 he9 => by rw [HL] at he9; cases he9; exact z137) (fun s9 hs9 => by rw [HL] at hs9; cases hs9)
          · have t132 := s132
            rw [← fN_ad (h := tH B n (tE B n p)) (s := 3) (k := t 0 5) (by decide), show adN N (tH B n (tE B n p)) 3 (t 0 5) = q20.2 by rw [eq20]] at t132
            rw [s132] at z132
            have z132 : MZ m132 l132 B n (.inr (tE B n (q125))) := z132
            have w132 : v132 = nI q132 := g132 _ q132 rfl s132
            subst w132
            have b132 := fN_lt hJ s132
            simp only [true_implies, Nat.reduceEqDiff, false_implies, and_true, true_and] at b132
            refine j_istore (lv2 := [_, _, _, _, _, _, _, _, _, _]) dX13_readPerson_88 (by decide) rfl rfl ?_
            refine j_aload_n dX13_readPerson_90 rfl rfl ?_
            refine j_ldcS13_269 dX13_readPerson_91 ?_
            refine j_bipush (v := nI 20) dX13_readPerson_94 (by decide) ?_
            refine j_bipush (v := nI 99) dX13_readPerson_96 (by decide) ?_
            refine cV13_225 (d1 := 9) rfl dX13_readPerson_98 (by decide) (Nat.le_of_ble_eq_true rfl) ?_
            refine m_readPart (i := 16) (lo := 20) (hi := 99) (x := .inr (tE B n (q125))) hX (hB.f F132) (by decide) (by decide) (by decide) z132 (fun v138 m138 l138 f138 z138 g138 => ?_)
            have F138 := F132.tr f138
            have z138 : MZ m138 l138 B n (es Prod.fst (eb (pW B n 16 (tE B n (q125))) (pN B n 20 99))) := z138
            have g138 : ∀ q, eb (pW B n 16 (tE B n (q125))) (pN B n 20 99) = .inr q → v138 = nI q.2 := g138
            have hst : (∃ e, pW B n 16 (tE B n (q125)) = .inl e) ∨ (∃ r e, pW B n 16 (tE B n (q125)) = .inr r ∧ pN B n 20 99 r = .inl e) ∨ ∃ r q, pW B n 16 (tE B n (q125)) = .inr r ∧ pN B n 20 99 r = .inr q := by
              cases s0 : pW B n 16 (tE B n (q125)) with
              | inl e => exact Or.inl ⟨e, rfl⟩
              | inr r =>
                cases u0 : pN B n 20 99 r with
                | inl e => exact Or.inr (Or.inl ⟨r, e, rfl, u0⟩)
                | inr q => exact Or.inr (Or.inr ⟨r, q, rfl, u0⟩)
            rcases hst with ⟨e138, s138⟩ | ⟨r138, e138, s138, u138⟩ | ⟨r138, q138, s138, u138⟩
            · rw [s138] at z138
              have z138 : MZ m138 l138 B n (.inl e138) := z138
              have HL : liA B n (p, N, t) = .inl e138 := by rw [liA_3 hls ht hc]; simp only [liP, s20, sK, s125, t132, s138, eb_r, eb_l]
              refine j_istore (lv2 := [_, _, _, _, _, _, _, _, _, _]) dX13_readPerson_101 (by decide) rfl rfl ?_
              refine j_aload_n dX13_readPerson_103 rfl rfl ?_
              refine j_ldcS13_271 dX13_readPerson_104 ?_
              refine cV13_133 (d1 := 8) rfl dX13_readPerson_107 (by decide) (Nat.le_of_ble_eq_true rfl) ?_
              refine m_needs (i := 17) (x := .inl e138) hX (hB.f F138) (by decide) z138 (fun m139 l139 f139 z139 => ?_)
              have z139 : MZ m139 l139 B n (.inl e138) := z139
              have F139 := F138.tr f139
              refine j_aload_n dX13_readPerson_110 rfl rfl ?_
              refine j_iconst (v := nI 3) dX13_readPerson_111 (by decide) ?_
              refine cV13_273 (d1 := 3) rfl dX13_readPerson_112 (by decide) (Nat.le_of_ble_eq_true rfl) ?_
              refine m_readLook3 (x := .inl e138) hX (hB.f F139) z139 (fun v140 m140 l140 f140 z140 g140 => ?_)
              have z140 : MZ m140 l140 B n (.inl e138) := z140
              have F140 := F139.tr f140
              refine j_istore (lv2 := [_, _, _, _, _, _, _, _, _, _]) dX13_readPerson_115 (by decide) rfl rfl ?_
              refine j_aload_n dX13_readPerson_117 rfl rfl ?_
              refine j_ldcS13_276 dX13_readPerson_118 ?_
              refine cV13_133 (d1 := 8) rfl dX13_readPerson_121 (by decide) (Nat.le_of_ble_eq_true rfl) ?_
              refine m_needs (i := 18) (x := .inl e138) hX (hB.f F140) (by decide) z140 (fun m141 l141 f141 z141 => ?_)
              have z141 : MZ m141 l141 B n (.inl e138) := z141
              have F141 := F140.tr f141
              refine j_aload_n dX13_readPerson_124 rfl rfl ?_
              refine j_iconst (v := nI 2) dX13_readPerson_125 (by decide) ?_
              refine cV13_273 (d1 := 3) rfl dX13_readPerson_126 (by decide) (Nat.le_of_ble_eq_true rfl) ?_
              refine m_readLook2 (x := .inl e138) hX (hB.f F141) z141 (fun v142 m142 l142 f142 z142 g142 => ?_)
              have z142 : MZ m142 l142 B n (.inl e138) := z142
              have F142 := F141.tr f142
              refine j_istore (lv2 := [_, _, _, _, _, _, _, _, _, _]) dX13_readPerson_129 (by decide) rfl rfl ?_
              refine j_aload_n dX13_readPerson_131 rfl rfl ?_
              refine gI13_79 rfl dX13_readPerson_132 ?_
              rw [z142.1]
              refine j_iconst (v := nI 5) dX13_readPerson_135 (by decide) ?_
              refine j_icmp_ne (tgt := 140) dX13_readPerson_136 (by decide) (fun h136 => absurd (by decide) h136) (fun h136 => ?_)
              refine j_vret rfl dX13_readPerson_139 ?_
              exact hp m142 l142 (F142.fm M) (fun e9 he9 => by rw [HL] at he9; cases he9; exact z142) (fun s9 hs9 => by rw [HL] at hs9; cases hs9)
            · rw [s138, eb_r, u138] at z138
              have z138 : MZ m138 l138 B n (.inl e138) := z138
              have HL : liA B n (p, N, t) = .inl e138 := by rw [liA_3 hls ht hc]; simp only [liP, s20, sK, s125, t132, s138, u138, eb_r, eb_l]
              refine j_istore (lv2 := [_, _, _, _, _, _, _, _, _, _]) dX13_readPerson_101 (by decide) rfl rfl ?_
              refine j_aload_n dX13_readPerson_103 rfl rfl ?_
              refine j_ldcS13_271 dX13_readPerson_104 ?_
              refine cV13_133 (d1 := 8) rfl dX13_readPerson_107 (by decide) (Nat.le_of_ble_eq_true rfl) ?_
              refine m_needs (i := 17) (x := .inl e138) hX (hB.f F138) (by decide) z138 (fun m143 l143 f143 z143 => ?_)
              have z143 : MZ m143 l143 B n (.inl e138) := z143
              have F143 := F138.tr f143
              refine j_aload_n dX13_readPerson_110 rfl rfl ?_
              refine j_iconst (v := nI 3) dX13_readPerson_111 (by decide) ?_
              refine cV13_273 (d1 := 3) rfl dX13_readPerson_112 (by decide) (Nat.le_of_ble_eq_true rfl) ?_
              refine m_readLook3 (x := .inl e138) hX (hB.f F143) z143 (fun v144 m144 l144 f144 z144 g144 => ?_)
              have z144 : MZ m144 l144 B n (.inl e138) := z144
              have F144 := F143.tr f144
              refine j_istore (lv2 := [_, _, _, _, _, _, _, _, _, _]) dX13_readPerson_115 (by decide) rfl rfl ?_
              refine j_aload_n dX13_readPerson_117 rfl rfl ?_
              refine j_ldcS13_276 dX13_readPerson_118 ?_
              refine cV13_133 (d1 := 8) rfl dX13_readPerson_121 (by decide) (Nat.le_of_ble_eq_true rfl) ?_
              refine m_needs (i := 18) (x := .inl e138) hX (hB.f F144) (by decide) z144 (fun m145 l145 f145 z145 => ?_)
              have z145 : MZ m145 l145 B n (.inl e138) := z145
              have F145 := F144.tr f145
              refine j_aload_n dX13_readPerson_124 rfl rfl ?_
              refine j_iconst (v := nI 2) dX13_readPerson_125 (by decide) ?_
              refine cV13_273 (d1 := 3) rfl dX13_readPerson_126 (by decide) (Nat.le_of_ble_eq_true rfl) ?_
              refine m_readLook2 (x := .inl e138) hX (hB.f F145) z145 (fun v146 m146 l146 f146 z146 g146 => ?_)
              have z146 : MZ m146 l146 B n (.inl e138) := z146
              have F146 := F145.tr f146
              refine j_istore (lv2 := [_, _, _, _, _, _, _, _, _, _]) dX13_readPerson_129 (by decide) rfl rfl ?_
              refine j_aload_n dX13_readPerson_131 rfl rfl ?_
              refine gI13_79 rfl dX13_readPerson_132 ?_
              rw [z146.1]
              refine j_iconst (v := nI 5) dX13_readPerson_135 (by decide) ?_
              refine j_icmp_ne (tgt := 140) dX13_readPerson_136 (by decide) (fun h136 => absurd (by decide) h136) (fun h136 => ?_)
              refine j_vret rfl dX13_readPerson_139 ?_
              exact hp m146 l146 (F146.fm M) (fun e9 he9 => by rw [HL] at he9; cases he9; exact z146) (fun s9 hs9 => by rw [HL] at hs9; cases hs9)
            · rw [s138, eb_r, u138] at z138
              have z138 : MZ m138 l138 B n (.inr q138.1) := z138
              have w138 : v138 = nI q138.2 := g138 q138 (by rw [s138, eb_r, u138])
              subst w138
              have b138 := pN_r u138
              refine j_istore (lv2 := [_, _, _, _, _, _, _, _, _, _]) dX13_readPerson_101 (by decide) rfl rfl ?_
              refine j_aload_n dX13_readPerson_103 rfl rfl ?_
              refine j_ldcS13_271 dX13_readPerson_104 ?_
              refine cV13_133 (d1 := 8) rfl dX13_readPerson_107 (by decide) (Nat.le_of_ble_eq_true rfl) ?_
              refine m_needs (i := 17) (x := .inr q138.1) hX (hB.f F138) (by decide) z138 (fun m147 l147 f147 z147 => ?_)
              have F147 := F138.tr f147
              have z147 : MZ m147 l147 B n (pW B n 17 (q138.1)) := z147
              rcases s147 : pW B n 17 (q138.1) with e147 | q147
              · rw [s147] at z147
                have HL : liA B n (p, N, t) = .inl e147 := by rw [liA_3 hls ht hc]; simp only [liP, s20, sK, s125, t132, s138, u138, s147, eb_r, eb_l]
                refine j_aload_n dX13_readPerson_110 rfl rfl ?_
                refine j_iconst (v := nI 3) dX13_readPerson_111 (by decide) ?_
                refine cV13_273 (d1 := 3) rfl dX13_readPerson_112 (by decide) (Nat.le_of_ble_eq_true rfl) ?_
                refine m_readLook3 (x := .inl e147) hX (hB.f F147) z147 (fun v148 m148 l148 f148 z148 g148 => ?_)
                have z148 : MZ m148 l148 B n (.inl e147) := z148
                have F148 := F147.tr f148
                refine j_istore (lv2 := [_, _, _, _, _, _, _, _, _, _]) dX13_readPerson_115 (by decide) rfl rfl ?_
                refine j_aload_n dX13_readPerson_117 rfl rfl ?_
                refine j_ldcS13_276 dX13_readPerson_118 ?_
                refine cV13_133 (d1 := 8) rfl dX13_readPerson_121 (by decide) (Nat.le_of_ble_eq_true rfl) ?_
                refine m_needs (i := 18) (x := .inl e147) hX (hB.f F148) (by decide) z148 (fun m149 l149 f149 z149 => ?_)
                have z149 : MZ m149 l149 B n (.inl e147) := z149
                have F149 := F148.tr f149
                refine j_aload_n dX13_readPerson_124 rfl rfl ?_
                refine j_iconst (v := nI 2) dX13_readPerson_125 (by decide) ?_
                refine cV13_273 (d1 := 3) rfl dX13_readPerson_126 (by decide) (Nat.le_of_ble_eq_true rfl) ?_
                refine m_readLook2 (x := .inl e147) hX (hB.f F149) z149 (fun v150 m150 l150 f150 z150 g150 => ?_)
                have z150 : MZ m150 l150 B n (.inl e147) := z150
                have F150 := F149.tr f150
                refine j_istore (lv2 := [_, _, _, _, _, _, _, _, _, _]) dX13_readPerson_129 (by decide) rfl rfl ?_
                refine j_aload_n dX13_readPerson_131 rfl rfl ?_
                refine gI13_79 rfl dX13_readPerson_132 ?_
                rw [z150.1]
                refine j_iconst (v := nI 5) dX13_readPerson_135 (by decide) ?_
                refine j_icmp_ne (tgt := 140) dX13_readPerson_136 (by decide) (fun h136 => absurd (by decide) h136) (fun h136 => ?_)
                refine j_vret rfl dX13_readPerson_139 ?_
                exact hp m150 l150 (F150.fm M) (fun e9 he9 => by rw [HL] at he9; cases he9; exact z150) (fun s9 hs9 => by rw [HL] at hs9; cases hs9)
              · rw [s147] at z147
                refine j_aload_n dX13_readPerson_110 rfl rfl ?_
                refine j_iconst (v := nI 3) dX13_readPerson_111 (by decide) ?_
                refine cV13_273 (d1 := 3) rfl dX13_readPerson_112 (by decide) (Nat.le_of_ble_eq_true rfl) ?_
                refine m_readLook3 (x := .inr q147) hX (hB.f F147) z147 (fun v151 m151 l151 f151 z151 g151 => ?_)
                have F151 := F147.tr f151
                have z151 : MZ m151 l151 B n (es Prod.fst (pL B n 3 (q147))) := z151
                rcases s151 : pL B n 3 (q147) with e151 | q151
                · rw [s151] at z151
                  have z151 : MZ m151 l151 B n (.inl e151) := z151
                  have HL : liA B n (p, N, t) = .inl e151 := by rw [liA_3 hls ht hc]; simp only [liP, s20, sK, s125, t132, s138, u138, s147, s151, eb_r, eb_l]
                  refine j_istore (lv2 := [_, _, _, _, _, _, _, _, _, _]) dX13_readPerson_115 (by decide) rfl rfl ?_
                  refine j_aload_n dX13_readPerson_117 rfl rfl ?_
                  refine j_ldcS13_276 dX13_readPerson_118 ?_
                  refine cV13_133 (d1 := 8) rfl dX13_readPerson_121 (by decide) (Nat.le_of_ble_eq_true rfl) ?_
                  refine m_needs (i := 18) (x := .inl e151) hX (hB.f F151) (by decide) z151 (fun m152 l152 f152 z152 => ?_)
                  have z152 : MZ m152 l152 B n (.inl e151) := z152
                  have F152 := F151.tr f152
                  refine j_aload_n dX13_readPerson_124 rfl rfl ?_
                  refine j_iconst (v := nI 2) dX13_readPerson_125 (by decide) ?_
                  refine cV13_273 (d1 := 3) rfl dX13_readPerson_126 (by decide) (Nat.le_of_ble_eq_true rfl) ?_
                  refine m_readLook2 (x := .inl e151) hX (hB.f F152) z152 (fun v153 m153 l153 f153 z153 g153 => ?_)
                  have z153 : MZ m153 l153 B n (.inl e151) := z153
                  have F153 := F152.tr f153
                  refine j_istore (lv2 := [_, _, _, _, _, _, _, _, _, _]) dX13_readPerson_129 (by decide) rfl rfl ?_
                  refine j_aload_n dX13_readPerson_131 rfl rfl ?_
                  refine gI13_79 rfl dX13_readPerson_132 ?_
                  rw [z153.1]
                  refine j_iconst (v := nI 5) dX13_readPerson_135 (by decide) ?_
                  refine j_icmp_ne (tgt := 140) dX13_readPerson_136 (by decide) (fun h136 => absurd (by decide) h136) (fun h136 => ?_)
                  refine j_vret rfl dX13_readPerson_139 ?_
                  exact hp m153 l153 (F153.fm M) (fun e9 he9 => by rw [HL] at he9; cases he9; exact z153) (fun s9 hs9 => by rw [HL] at hs9; cases hs9)
                · rw [s151] at z151
                  have z151 : MZ m151 l151 B n (.inr q151.1) := z151
                  have w151 : v151 = nI q151.2 := g151 q151 s151
                  subst w151
                  have b151 := pL_r s151
                  refine j_istore (lv2 := [_, _, _, _, _, _, _, _, _, _]) dX13_readPerson_115 (by decide) rfl rfl ?_
                  refine j_aload_n dX13_readPerson_117 rfl rfl ?_
                  refine j_ldcS13_276 dX13_readPerson_118 ?_
                  refine cV13_133 (d1 := 8) rfl dX13_readPerson_121 (by decide) (Nat.le_of_ble_eq_true rfl) ?_
                  refine m_needs (i := 18) (x := .inr q151.1) hX (hB.f F151) (by decide) z151 (fun m154 l154 f154 z154 => ?_)
                  have F154 := F151.tr f154
                  have z154 : MZ m154 l154 B n (pW B n 18 (q151.1)) := z154
                  rcases s154 : pW B n 18 (q151.1) with e154 | q154
                  · rw [s154] at z154
                    have HL : liA B n (p, N, t) = .inl e154 := by rw [liA_3 hls ht hc]; simp only [liP, s20, sK, s125, t132, s138, u138, s147, s151, s154, eb_r, eb_l]
                    refine j_aload_n dX13_readPerson_124 rfl rfl ?_
                    refine j_iconst (v := nI 2) dX13_readPerson_125 (by decide) ?_
                    refine cV13_273 (d1 := 3) rfl dX13_readPerson_126 (by decide) (Nat.le_of_ble_eq_true rfl) ?_
                    refine m_readLook2 (x := .inl e154) hX (hB.f F154) z154 (fun v155 m155 l155 f155 z155 g155 => ?_)
                    have z155 : MZ m155 l155 B n (.inl e154) := z155
                    have F155 := F154.tr f155
                    refine j_istore (lv2 := [_, _, _, _, _, _, _, _, _, _]) dX13_readPerson_129 (by decide) rfl rfl ?_
                    refine j_aload_n dX13_readPerson_131 rfl rfl ?_
                    refine gI13_79 rfl dX13_readPerson_132 ?_
                    rw [z155.1]
                    refine j_iconst (v := nI 5) dX13_readPerson_135 (by decide) ?_
                    refine j_icmp_ne (tgt := 140) dX13_readPerson_136 (by decide) (fun h136 => absurd (by decide) h136) (fun h136 => ?_)
                    refine j_vret rfl dX13_readPerson_139 ?_
                    exact hp m155 l155 (F155.fm M) (fun e9 he9 => by rw [HL] at he9; cases he9; exact z155) (fun s9 hs9 => by rw [HL] at hs9; cases hs9)
                  · rw [s154] at z154
                    refine j_aload_n dX13_readPerson_124 rfl rfl ?_
                    refine j_iconst (v := nI 2) dX13_readPerson_125 (by decide) ?_
                    refine cV13_273 (d1 := 3) rfl dX13_readPerson_126 (by decide) (Nat.le_of_ble_eq_true rfl) ?_
                    refine m_readLook2 (x := .inr q154) hX (hB.f F154) z154 (fun v156 m156 l156 f156 z156 g156 => ?_)
                    have F156 := F154.tr f156
                    have z156 : MZ m156 l156 B n (es Prod.fst (pL B n 2 (q154))) := z156
                    rcases s156 : pL B n 2 (q154) with e156 | q156
                    · rw [s156] at z156
                      have z156 : MZ m156 l156 B n (.inl e156) := z156
                      have HL : liA B n (p, N, t) = .inl e156 := by rw [liA_3 hls ht hc]; simp only [liP, s20, sK, s125, t132, s138, u138, s147, s151, s154, s156, eb_r, eb_l]
                      refine j_istore (lv2 := [_, _, _, _, _, _, _, _, _, _]) dX13_readPerson_129 (by decide) rfl rfl ?_
                      refine j_aload_n dX13_readPerson_131 rfl rfl ?_
                      refine gI13_79 rfl dX13_readPerson_132 ?_
                      rw [z156.1]
                      refine j_iconst (v := nI 5) dX13_readPerson_135 (by decide) ?_
                      refine j_icmp_ne (tgt := 140) dX13_readPerson_136 (by decide) (fun h136 => absurd (by decide) h136) (fun h136 => ?_)
                      refine j_vret rfl dX13_readPerson_139 ?_
                      exact hp m156 l156 (F156.fm M) (fun e9 he9 => by rw [HL] at he9; cases he9; exact z156) (fun s9 hs9 => by rw [HL] at hs9; cases hs9)
                    · rw [s156] at z156
                      have z156 : MZ m156 l156 B n (.inr q156.1) := z156
                      have w156 : v156 = nI q156.2 := g156 q156 s156
                      subst w156
                      have b156 := pL_r s156
                      refine j_istore (lv2 := [_, _, _, _, _, _, _, _, _, _]) dX13_readPerson_129 (by decide) rfl rfl ?_
                      refine j_aload_n dX13_readPerson_131 rfl rfl ?_
                      refine gI13_79 rfl dX13_readPerson_132 ?_
                      rw [z156.2.1.2.1]
                      refine j_iconst (v := nI 5) dX13_readPerson_135 (by decide) ?_
                      refine j_icmp_ne (tgt := 140) dX13_readPerson_136 (by decide) (fun h136 => ?_) (fun h136 => by exfalso; have h6 := sM_le (tS_le B n (q156.1)); rw [nI_eq (by omega) (by decide)] at h136; omega)
                      refine j_aload_n dX13_readPerson_140 rfl rfl ?_
                      refine gR13_157 rfl dX13_readPerson_141 hRd ?_
                      refine gI13_199 (kM0 hM) dX13_readPerson_144 ?_
                      rw [show m156 M 5 = nI (t 0 5) from (hR.f hM F156).1 5 (by decide)]
                      refine j_istore (lv2 := [_, _, _, _, _, _, _, _, _, _]) dX13_readPerson_147 (by decide) rfl rfl ?_
                      refine j_aload_n dX13_readPerson_149 rfl rfl ?_
                      refine j_lload_n dX13_readPerson_150 rfl rfl ?_
                      refine j_iconst (v := nI 1) dX13_readPerson_151 (by decide) ?_
                      refine j_iload dX13_readPerson_152 rfl ?_
                      refine cV13_246 (d1 := 1) rfl dX13_readPerson_154 (by decide) (Nat.le_of_ble_eq_true rfl) ?_
                      refine m_names (s := 3) (k := t 0 5) hM hY hRd (hN.f hM F156) h17 (fun nn157 => ?_)
                      have FF157 := (((((F156.fm M).pl N.1 (tH B n (tE B n p))).pu hM (a := M + 18) (j := N.1) (by omega) (nI (smc 3))).pu hM (a := M + 19) (j := N.1) (by omega) (nI (t 0 5))).pu hM (a := M) (j := 9) (by omega) (nI (N.1 + 1)))
                      have zz157 := (((z156.pl (a := M + 17) (j := N.1) (by omega) (tH B n (tE B n p))).pu (a := M + 18) (j := N.1) (by omega) (nI (smc 3))).pu (a := M + 19) (j := N.1) (by omega) (nI (t 0 5))).pu (a := M) (j := 9) (by omega) (nI (N.1 + 1))
                      have rr157 : RM _ M t := (((hR.f hM F156).o (a := M + 18) (j := N.1) (x := nI (smc 3)) (fun _ r _ _ => by omega) (fun q => by omega)).o (a := M + 19) (j := N.1) (x := nI (t 0 5)) (fun _ r _ _ => by omega) (fun q => by omega)).o (a := M) (j := 9) (x := nI (N.1 + 1)) (fun q => absurd rfl q) (fun _ => by omega)
                      generalize up (up (up m156 (M + 18) N.1 (nI (smc 3))) (M + 19) N.1 (nI (t 0 5))) M 9 (nI (N.1 + 1)) = y157 at nn157 FF157 zz157 rr157 ⊢
                      generalize upl l156 (M + 17) N.1 (tH B n (tE B n p)) = u157 at nn157 FF157 zz157 rr157 ⊢
                      refine j_aload_n dX13_readPerson_157 rfl rfl ?_
                      refine gR13_157 rfl dX13_readPerson_158 hRd ?_
                      refine gR13_278 (kM0 hM) dX13_readPerson_161 (xM4 hY) ?_
                      refine j_iload dX13_readPerson_164 rfl ?_
                      refine j_iload_n dX13_readPerson_166 rfl rfl ?_
                      refine j_iast (kM4 hM) (inT (lM4 hM) (by have := hg 0 5; show t 0 5 < 6; omega) (by decide)) dX13_readPerson_167 ?_
                      rw [nI_clamp (by have := hg 0 5; omega)]
                      have FF158 := FF157.pu hM (a := M + 4) (j := t 0 5) (by omega) (nI (0))
                      have zz158 := zz157.pu (a := M + 4) (j := t 0 5) (by omega) (nI (0))
                      have rr158 := rr157.put (r := 4) (i := t 0 5) (x := 0) (by decide) (by decide)
                      have nn158 := nn157.pu (r := 4) (i := t 0 5) (by decide) (fun q => absurd q (by decide)) (nI (0))
                      generalize up y157 (M + 4) (t 0 5) (nI (0)) = y158 at FF158 zz158 rr158 nn158 ⊢
                      refine j_aload_n dX13_readPerson_168 rfl rfl ?_
                      refine gR13_157 rfl dX13_readPerson_169 hRd ?_
                      refine gR13_281 (kM0 hM) dX13_readPerson_172 (xM5 hY) ?_
                      refine j_iload dX13_readPerson_175 rfl ?_
                      refine j_iload dX13_readPerson_177 rfl ?_
                      refine j_iast (kM5 hM) (inT (lM5 hM) (by have := hg 0 5; show t 0 5 < 6; omega) (by decide)) dX13_readPerson_179 ?_
                      rw [nI_clamp (by have := hg 0 5; omega)]
                      have FF159 := FF158.pu hM (a := M + 5) (j := t 0 5) (by omega) (nI (q132))
                      have zz159 := zz158.pu (a := M + 5) (j := t 0 5) (by omega) (nI (q132))
                      have rr159 := rr158.put (r := 5) (i := t 0 5) (x := q132) (by decide) (by decide)
                      have nn159 := nn158.pu (r := 5) (i := t 0 5) (by decide) (fun q => absurd q (by decide)) (nI (q132))
                      generalize up y158 (M + 5) (t 0 5) (nI (q132)) = y159 at FF159 zz159 rr159 nn159 ⊢
                      refine j_aload_n dX13_readPerson_180 rfl rfl ?_
                      refine gR13_157 rfl dX13_readPerson_181 hRd ?_
                      refine gR13_283 (kM0 hM) dX13_readPerson_184 (xM6 hY) ?_
                      refine j_iload dX13_readPerson_187 rfl ?_
                      refine j_iload dX13_readPerson_189 rfl ?_
                      refine j_iast (kM6 hM) (inT (lM6 hM) (by have := hg 0 5; show t 0 5 < 6; omega) (by decide)) dX13_readPerson_191 ?_
                      rw [nI_clamp (by have := hg 0 5; omega)]
                      have FF160 := FF159.pu hM (a := M + 6) (j := t 0 5) (by omega) (nI (q138.2))
                      have zz160 := zz159.pu (a := M + 6) (j := t 0 5) (by omega) (nI (q138.2))
                      have rr160 := rr159.put (r := 6) (i := t 0 5) (x := q138.2) (by decide) (by decide)
                      have nn160 := nn159.pu (r := 6) (i := t 0 5) (by decide) (fun q => absurd q (by decide)) (nI (q138.2))
                      generalize up y159 (M + 6) (t 0 5) (nI (q138.2)) = y160 at FF160 zz160 rr160 nn160 ⊢
                      refine j_iconst (v := nI 0) dX13_readPerson_192 (by decide) ?_
                      refine j_istore (lv2 := [_, _, _, _, _, _, _, _, _, _]) dX13_readPerson_193 (by decide) rfl rfl ?_
                      refine j_iload dX13_readPerson_195 rfl ?_
                      refine j_iconst (v := nI 5) dX13_readPerson_197 (by decide) ?_
                      refine j_icmp_ge (tgt := 253) dX13_readPerson_198 (by decide) (fun h198 => absurd h198 (by decide)) (fun h198 => ?_)
                      refine j_aload_n dX13_readPerson_201 rfl rfl ?_
                      refine gR13_157 rfl dX13_readPerson_202 hRd ?_
                      refine gR13_285 (kM0 hM) dX13_readPerson_205 (xM7 hY) ?_
                      refine j_iconst (v := nI 5) dX13_readPerson_208 (by decide) ?_
                      refine j_iload dX13_readPerson_209 rfl ?_
                      refine j_imul dX13_readPerson_211 ?_
                      rw [pk_mul]
                      refine j_iload dX13_readPerson_212 rfl ?_
                      refine j_iadd dX13_readPerson_214 ?_
                      rw [nI_add]
                      refine j_iload dX13_readPerson_215 rfl ?_
                      refine j_iconst (v := nI 3) dX13_readPerson_217 (by decide) ?_
                      refine j_icmp_ge (tgt := 235) dX13_readPerson_218 (by decide) (fun h218 => absurd h218 (by decide)) (fun h218 => ?_)
                      refine j_iload dX13_readPerson_221 rfl ?_
                      refine j_iconst (v := nI 2) dX13_readPerson_223 (by decide) ?_
                      refine j_iconst (v := nI 2) dX13_readPerson_224 (by decide) ?_
                      refine j_iload dX13_readPerson_225 rfl ?_
                      refine j_isub dX13_readPerson_227 ?_
                      rw [show nI 2 - nI 0 = nI 2 by decide]
                      refine j_imul dX13_readPerson_228 ?_
                      rw [show nI 2 * nI 2 = nI 4 by decide]
                      refine j_ishr dX13_readPerson_229 ?_
                      refine j_iconst (v := nI 3) dX13_readPerson_230 (by decide) ?_
                      refine j_iand dX13_readPerson_231 ?_
                      rw [sh4 _ (by have := b151; show q151.2 < 64; omega)]
                      refine j_goto (tgt := 246) dX13_readPerson_232 (by decide) ?_
                      refine j_iast (kM7 hM) (inT (lM7 hM) (by have := hg 0 5; show (5 * (t 0 5)) + 0 < 30; omega) (by decide)) dX13_readPerson_246 ?_
                      rw [nI_clamp (by have := hg 0 5; omega)]
                      have FF161 := FF160.pu hM (a := M + 7) (j := (5 * (t 0 5)) + 0) (by omega) (nI (q151.2 / 4 / 4 % 4))
                      have zz161 := zz160.pu (a := M + 7) (j := (5 * (t 0 5)) + 0) (by omega) (nI (q151.2 / 4 / 4 % 4))
                      have rr161 := rr160.put (r := 7) (i := (5 * (t 0 5)) + 0) (x := q151.2 / 4 / 4 % 4) (by decide) (by decide)
                      have nn161 := nn160.pu (r := 7) (i := (5 * (t 0 5)) + 0) (by decide) (fun q => absurd q (by decide)) (nI (q151.2 / 4 / 4 % 4))
                      generalize up y160 (M + 7) ((5 * (t 0 5)) + 0) (nI (q151.2 / 4 / 4 % 4)) = y161 at FF161 zz161 rr161 nn161 ⊢
                      refine j_iinc1 (lv2 := [_, _, _, _, _, _, _, _, _, _]) dX13_readPerson_247 rfl (by decide) rfl rfl ?_
                      rw [show nI 0 + 1 = nI 1 from rfl]
                      refine j_goto (tgt := 195) dX13_readPerson_250 (by decide) ?_
                      refine j_iload dX13_readPerson_195 rfl ?_
                      refine j_iconst (v := nI 5) dX13_readPerson_197 (by decide) ?_
                      refine j_icmp_ge (tgt := 253) dX13_readPerson_198 (by decide) (fun h198 => absurd h198 (by decide)) (fun h198 => ?_)
                      refine j_aload_n dX13_readPerson_201 rfl rfl ?_
                      refine gR13_157 rfl dX13_readPerson_202 hRd ?_
                      refine gR13_285 (kM0 hM) dX13_readPerson_205 (xM7 hY) ?_
                      refine j_iconst (v := nI 5) dX13_readPerson_208 (by decide) ?_
                      refine j_iload dX13_readPerson_209 rfl ?_
                      refine j_imul dX13_readPerson_211 ?_
                      rw [pk_mul]
                      refine j_iload dX13_readPerson_212 rfl ?_
                      refine j_iadd dX13_readPerson_214 ?_
                      rw [nI_add]
                      refine j_iload dX13_readPerson_215 rfl ?_
                      refine j_iconst (v := nI 3) dX13_readPerson_217 (by decide) ?_
                      refine j_icmp_ge (tgt := 235) dX13_readPerson_218 (by decide) (fun h218 => absurd h218 (by decide)) (fun h218 => ?_)
                      refine j_iload dX13_readPerson_221 rfl ?_
                      refine j_iconst (v := nI 2) dX13_readPerson_223 (by decide) ?_
                      refine j_iconst (v := nI 2) dX13_readPerson_224 (by decide) ?_
                      refine j_iload dX13_readPerson_225 rfl ?_
                      refine j_isub dX13_readPerson_227 ?_
                      rw [show nI 2 - nI 1 = nI 1 by decide]
                      refine j_imul dX13_readPerson_228 ?_
                      rw [show nI 2 * nI 1 = nI 2 by decide]
                      refine j_ishr dX13_readPerson_229 ?_
                      refine j_iconst (v := nI 3) dX13_readPerson_230 (by decide) ?_
                      refine j_iand dX13_readPerson_231 ?_
                      rw [sh2 _ (by have := b151; show q151.2 < 64; omega)]
                      refine j_goto (tgt := 246) dX13_readPerson_232 (by decide) ?_
                      refine j_iast (kM7 hM) (inT (lM7 hM) (by have := hg 0 5; show (5 * (t 0 5)) + 1 < 30; omega) (by decide)) dX13_readPerson_246 ?_
                      rw [nI_clamp (by have := hg 0 5; omega)]
                      have FF162 := FF161.pu hM (a := M + 7) (j := (5 * (t 0 5)) + 1) (by omega) (nI (q151.2 / 4 % 4))
                      have zz162 := zz161.pu (a := M + 7) (j := (5 * (t 0 5)) + 1) (by omega) (nI (q151.2 / 4 % 4))
                      have rr162 := rr161.put (r := 7) (i := (5 * (t 0 5)) + 1) (x := q151.2 / 4 % 4) (by decide) (by decide)
                      have nn162 := nn161.pu (r := 7) (i := (5 * (t 0 5)) + 1) (by decide) (fun q => absurd q (by decide)) (nI (q151.2 / 4 % 4))
                      generalize up y161 (M + 7) ((5 * (t 0 5)) + 1) (nI (q151.2 / 4 % 4)) = y162 at FF162 zz162 rr162 nn162 ⊢
                      refine j_iinc1 (lv2 := [_, _, _, _, _, _, _, _, _, _]) dX13_readPerson_247 rfl (by decide) rfl rfl ?_
                      rw [show nI 1 + 1 = nI 2 from rfl]
                      refine j_goto (tgt := 195) dX13_readPerson_250 (by decide) ?_
                      refine j_iload dX13_readPerson_195 rfl ?_
                      refine j_iconst (v := nI 5) dX13_readPerson_197 (by decide) ?_
                      refine j_icmp_ge (tgt := 253) dX13_readPerson_198 (by decide) (fun h198 => absurd h198 (by decide)) (fun h198 => ?_)
                      refine j_aload_n dX13_readPerson_201 rfl rfl ?_
                      refine gR13_157 rfl dX13_readPerson_202 hRd ?_
                      refine gR13_285 (kM0 hM) dX13_readPerson_205 (xM7 hY) ?_
                      refine j_iconst (v := nI 5) dX13_readPerson_208 (by decide) ?_
                      refine j_iload dX13_readPerson_209 rfl ?_
                      refine j_imul dX13_readPerson_211 ?_
                      rw [pk_mul]
                      refine j_iload dX13_readPerson_212 rfl ?_
                      refine j_iadd dX13_readPerson_214 ?_
                      rw [nI_add]
                      refine j_iload dX13_readPerson_215 rfl ?_
                      refine j_iconst (v := nI 3) dX13_readPerson_217 (by decide) ?_
                      refine j_icmp_ge (tgt := 235) dX13_readPerson_218 (by decide) (fun h218 => absurd h218 (by decide)) (fun h218 => ?_)
                      refine j_iload dX13_readPerson_221 rfl ?_
                      refine j_iconst (v := nI 2) dX13_readPerson_223 (by decide) ?_
                      refine j_iconst (v := nI 2) dX13_readPerson_224 (by decide) ?_
                      refine j_iload dX13_readPerson_225 rfl ?_
                      refine j_isub dX13_readPerson_227 ?_
                      rw [show nI 2 - nI 2 = nI 0 by decide]
                      refine j_imul dX13_readPerson_228 ?_
                      rw [show nI 2 * nI 0 = nI 0 by decide]
                      refine j_ishr dX13_readPerson_229 ?_
                      refine j_iconst (v := nI 3) dX13_readPerson_230 (by decide) ?_
                      refine j_iand dX13_readPerson_231 ?_
                      rw [sh0 _ (by have := b151; show q151.2 < 64; omega)]
                      refine j_goto (tgt := 246) dX13_readPerson_232 (by decide) ?_
                      refine j_iast (kM7 hM) (inT (lM7 hM) (by have := hg 0 5; show (5 * (t 0 5)) + 2 < 30; omega) (by decide)) dX13_readPerson_246 ?_
                      rw [nI_clamp (by have := hg 0 5; omega)]
                      have FF163 := FF162.pu hM (a := M + 7) (j := (5 * (t 0 5)) + 2) (by omega) (nI (q151.2 % 4))
                      have zz163 := zz162.pu (a := M + 7) (j := (5 * (t 0 5)) + 2) (by omega) (nI (q151.2 % 4))
                      have rr163 := rr162.put (r := 7) (i := (5 * (t 0 5)) + 2) (x := q151.2 % 4) (by decide) (by decide)
                      have nn163 := nn162.pu (r := 7) (i := (5 * (t 0 5)) + 2) (by decide) (fun q => absurd q (by decide)) (nI (q151.2 % 4))
                      generalize up y162 (M + 7) ((5 * (t 0 5)) + 2) (nI (q151.2 % 4)) = y163 at FF163 zz163 rr163 nn163 ⊢
                      refine j_iinc1 (lv2 := [_, _, _, _, _, _, _, _, _, _]) dX13_readPerson_247 rfl (by decide) rfl rfl ?_
                      rw [show nI 2 + 1 = nI 3 from rfl]
                      refine j_goto (tgt := 195) dX13_readPerson_250 (by decide) ?_
                      refine j_iload dX13_readPerson_195 rfl ?_
                      refine j_iconst (v := nI 5) dX13_readPerson_197 (by decide) ?_
                      refine j_icmp_ge (tgt := 253) dX13_readPerson_198 (by decide) (fun h198 => absurd h198 (by decide)) (fun h198 => ?_)
                      refine j_aload_n dX13_readPerson_201 rfl rfl ?_
                      refine gR13_157 rfl dX13_readPerson_202 hRd ?_
                      refine gR13_285 (kM0 hM) dX13_readPerson_205 (xM7 hY) ?_
                      refine j_iconst (v := nI 5) dX13_readPerson_208 (by decide) ?_
                      refine j_iload dX13_readPerson_209 rfl ?_
                      refine j_imul dX13_readPerson_211 ?_
                      rw [pk_mul]
                      refine j_iload dX13_readPerson_212 rfl ?_
                      refine j_iadd dX13_readPerson_214 ?_
                      rw [nI_add]
                      refine j_iload dX13_readPerson_215 rfl ?_
                      refine j_iconst (v := nI 3) dX13_readPerson_217 (by decide) ?_
                      refine j_icmp_ge (tgt := 235) dX13_readPerson_218 (by decide) (fun h218 => ?_) (fun h218 => absurd (by decide) h218)
                      refine j_iload dX13_readPerson_235 rfl ?_
                      refine j_iconst (v := nI 2) dX13_readPerson_237 (by decide) ?_
                      refine j_iconst (v := nI 4) dX13_readPerson_238 (by decide) ?_
                      refine j_iload dX13_readPerson_239 rfl ?_
                      refine j_isub dX13_readPerson_241 ?_
                      rw [show nI 4 - nI 3 = nI 1 by decide]
                      refine j_imul dX13_readPerson_242 ?_
                      rw [show nI 2 * nI 1 = nI 2 by decide]
                      refine j_ishr dX13_readPerson_243 ?_
                      refine j_iconst (v := nI 3) dX13_readPerson_244 (by decide) ?_
                      refine j_iand dX13_readPerson_245 ?_
                      rw [sh2 _ (by have := b156; show q156.2 < 64; omega)]
                      refine j_iast (kM7 hM) (inT (lM7 hM) (by have := hg 0 5; show (5 * (t 0 5)) + 3 < 30; omega) (by decide)) dX13_readPerson_246 ?_
                      rw [nI_clamp (by have := hg 0 5; omega)]
                      have FF164 := FF163.pu hM (a := M + 7) (j := (5 * (t 0 5)) + 3) (by omega) (nI (q156.2 / 4 % 4))
                      have zz164 := zz163.pu (a := M + 7) (j := (5 * (t 0 5)) + 3) (by omega) (nI (q156.2 / 4 % 4))
                      have rr164 := rr163.put (r := 7) (i := (5 * (t 0 5)) + 3) (x := q156.2 / 4 % 4) (by decide) (by decide)
                      have nn164 := nn163.pu (r := 7) (i := (5 * (t 0 5)) + 3) (by decide) (fun q => absurd q (by decide)) (nI (q156.2 / 4 % 4))
                      generalize up y163 (M + 7) ((5 * (t 0 5)) + 3) (nI (q156.2 / 4 % 4)) = y164 at FF164 zz164 rr164 nn164 ⊢
                      refine j_iinc1 (lv2 := [_, _, _, _, _, _, _, _, _, _]) dX13_readPerson_247 rfl (by decide) rfl rfl ?_
                      rw [show nI 3 + 1 = nI 4 from rfl]
                      refine j_goto (tgt := 195) dX13_readPerson_250 (by decide) ?_
                      refine j_iload dX13_readPerson_195 rfl ?_
                      refine j_iconst (v := nI 5) dX13_readPerson_197 (by decide) ?_
                      refine j_icmp_ge (tgt := 253) dX13_readPerson_198 (by decide) (fun h198 => absurd h198 (by decide)) (fun h198 => ?_)
                      refine j_aload_n dX13_readPerson_201 rfl rfl ?_
                      refine gR13_157 rfl dX13_readPerson_202 hRd ?_
                      refine gR13_285 (kM0 hM) dX13_readPerson_205 (xM7 hY) ?_
                      refine j_iconst (v := nI 5) dX13_readPerson_208 (by decide) ?_
                      refine j_iload dX13_readPerson_209 rfl ?_
                      refine j_imul dX13_readPerson_211 ?_
                      rw [pk_mul]
                      refine j_iload dX13_readPerson_212 rfl ?_
                      refine j_iadd dX13_readPerson_214 ?_
                      rw [nI_add]
                      refine j_iload dX13_readPerson_215 rfl ?_
                      refine j_iconst (v := nI 3) dX13_readPerson_217 (by decide) ?_
                      refine j_icmp_ge (tgt := 235) dX13_readPerson_218 (by decide) (fun h218 => ?_) (fun h218 => absurd (by decide) h218)
                      refine j_iload dX13_readPerson_235 rfl ?_
                      refine j_iconst (v := nI 2) dX13_readPerson_237 (by decide) ?_
                      refine j_iconst (v := nI 4) dX13_readPerson_238 (by decide) ?_
                      refine j_iload dX13_readPerson_239 rfl ?_
                      refine j_isub dX13_readPerson_241 ?_
                      rw [show nI 4 - nI 4 = nI 0 by decide]
                      refine j_imul dX13_readPerson_242 ?_
                      rw [show nI 2 * nI 0 = nI 0 by decide]
                      refine j_ishr dX13_readPerson_243 ?_
                      refine j_iconst (v := nI 3) dX13_readPerson_244 (by decide) ?_
                      refine j_iand dX13_readPerson_245 ?_
                      rw [sh0 _ (by have := b156; show q156.2 < 64; omega)]
                      refine j_iast (kM7 hM) (inT (lM7 hM) (by have := hg 0 5; show (5 * (t 0 5)) + 4 < 30; omega) (by decide)) dX13_readPerson_246 ?_
                      rw [nI_clamp (by have := hg 0 5; omega)]
                      have FF165 := FF164.pu hM (a := M + 7) (j := (5 * (t 0 5)) + 4) (by omega) (nI (q156.2 % 4))
                      have zz165 := zz164.pu (a := M + 7) (j := (5 * (t 0 5)) + 4) (by omega) (nI (q156.2 % 4))
                      have rr165 := rr164.put (r := 7) (i := (5 * (t 0 5)) + 4) (x := q156.2 % 4) (by decide) (by decide)
                      have nn165 := nn164.pu (r := 7) (i := (5 * (t 0 5)) + 4) (by decide) (fun q => absurd q (by decide)) (nI (q156.2 % 4))
                      generalize up y164 (M + 7) ((5 * (t 0 5)) + 4) (nI (q156.2 % 4)) = y165 at FF165 zz165 rr165 nn165 ⊢
                      refine j_iinc1 (lv2 := [_, _, _, _, _, _, _, _, _, _]) dX13_readPerson_247 rfl (by decide) rfl rfl ?_
                      rw [show nI 4 + 1 = nI 5 from rfl]
                      refine j_goto (tgt := 195) dX13_readPerson_250 (by decide) ?_
                      refine j_iload dX13_readPerson_195 rfl ?_
                      refine j_iconst (v := nI 5) dX13_readPerson_197 (by decide) ?_
                      refine j_icmp_ge (tgt := 253) dX13_readPerson_198 (by decide) (fun h198 => ?_) (fun h198 => absurd (by decide) h198)
                      rw [pMk_eq] at rr165
                      refine j_aload_n dX13_readPerson_253 rfl rfl ?_
                      refine gR13_157 rfl dX13_readPerson_254 hRd ?_
                      refine j_dup dX13_readPerson_257 rfl ?_
                      refine gI13_199 (kM0 hM) dX13_readPerson_258 ?_
                      rw [show y165 M 5 = nI (t 0 5) from rr165.1 5 (by decide)]
                      refine j_iconst (v := nI 1) dX13_readPerson_261 (by decide) ?_
                      refine j_iadd dX13_readPerson_262 ?_
                      rw [nI_add]
                      refine pI13_199 (kM0 hM) dX13_readPerson_263 ?_
                      have FF166 := FF165.pu hM (a := M) (j := 5) (by omega) (nI ((t 0 5) + 1))
                      have zz166 := zz165.pu (a := M) (j := 5) (by omega) (nI ((t 0 5) + 1))
                      have rr166 := rr165.put0 (i := 5) (x := (t 0 5) + 1)
                      have nn166 := nn165.pu (r := 0) (i := 5) (by decide) (fun _ => by decide) (nI ((t 0 5) + 1))
                      rw [Nat.add_zero] at nn166
                      generalize up y165 (M) (5) (nI ((t 0 5) + 1)) = y166 at FF166 zz166 rr166 nn166 ⊢
                      refine j_vret rfl dX13_readPerson_266 ?_
                      have HL : liA B n (p, N, t) = .inr (q156.1, q20.2, ut (pMk (ut (ut (ut t 4 (t 0 5) 0) 5 (t 0 5) q132) 6 (t 0 5) q138.2) (t 0 5) q151.2 q156.2) 0 5 (t 0 5 + 1)) := by rw [liA_3 hls ht hc]; simp only [liP, s20, sK, s125, t132, s138, u138, s147, s151, s154, s156, eb_r, eb_l]
                      refine hp y166 u157 FF166 (fun e9 he9 => by rw [HL] at he9; cases he9) (fun s9 hs9 => ?_)
                      rw [HL] at hs9
                      cases hs9
                      exact ⟨zz166, rr166, (by rw [eq20]; exact nn166)⟩
end M13m
