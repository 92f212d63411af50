/-! the class: Reader, lines -/
/-- the reader's cells, the names' rows and one town may have changed -/
def FT (T : Nat) (mi : MI) (ml : ML) (mi' : MI) (ml' : ML) : Prop := (∀ a, a ≠ 2 → a ≠ 6 → a ≠ 7 → (a < T ∨ T + 60 ≤ a) → mi' a = mi a) ∧ (∀ a, a ≠ 2 → a ≠ 5 → ml' a = ml a) ∧ mi' 2 3 = mi 2 3
theorem FT.rfl' (T : Nat) (mi : MI) (ml : ML) : FT T mi ml mi ml := ⟨fun _ _ _ _ _ => rfl, fun _ _ _ => rfl, rfl⟩
theorem FT.tr {T : Nat} {mi mi' mi2 : MI} {ml ml' ml2 : ML} (h : FT T mi ml mi' ml') (h2 : FT T mi' ml' mi2 ml2) : FT T mi ml mi2 ml2 := ⟨fun a x y z w => (h2.1 a x y z w).trans (h.1 a x y z w), fun a x y => (h2.2.1 a x y).trans (h.2.1 a x y), h2.2.2.trans h.2.2⟩
theorem F2.ft {mi mi' : MI} {ml ml' : ML} (T : Nat) (h : F2 mi ml mi' ml') : FT T mi ml mi' ml' := ⟨fun a x _ _ _ => h.1 a x, fun a x _ => h.2.1 a x, h.2.2.1⟩
theorem F5.ft {mi mi' : MI} {ml ml' : ML} (T : Nat) (h : F5 mi ml mi' ml') : FT T mi ml mi' ml' := ⟨fun a x y z _ => h.1 a x y z, fun a x y => h.2.1 a x y, h.2.2⟩
theorem TT.ge {T : Nat} (h : TT T) : 100 ≤ T := by rcases h with rfl | rfl <;> decide
theorem RB.ft {T : Nat} {mi mi' : MI} {ml ml' : ML} {mr : MR} {B : Nat → Nat} {n : Nat} (h : RB mi ml mr B n) (hT : TT T) (f : FT T mi ml mi' ml') : RB mi' ml' mr B n := ⟨h.1, h.2.1, h.2.2.1, by rw [f.1 1 (by decide) (by decide) (by decide) (Or.inl (by have := hT.ge; omega))]; exact h.2.2.2.1, f.2.2.trans h.2.2.2.2.1, by rw [f.2.1 4 (by decide) (by decide)]; exact h.2.2.2.2.2⟩
theorem cD_ne {r i : Nat} (h : cC r i = 0) : cD r i ≠ 0 := by
  unfold cC at h; unfold cD
  by_cases h0 : r = 0
  · rw [if_pos h0] at h ⊢
    by_cases h4 : i = 4
    · rw [if_pos h4] at h; omega
    · rw [if_neg h4]; split <;> omega
  · exfalso; rw [if_neg h0] at h
    (repeat' (split at h)) <;> omega
/-- where a line's reading stands -/
def LZ (mr : MR) (mi : MI) (ml : ML) (T : Nat) (B : Nat → Nat) (n p : Nat) (N : NS) (S : Nat → Nat → Prop) (t : TW) (k : Nat) (mi' : MI) (ml' : ML) : Prop := FT T mi ml mi' ml' ∧ RB mi' ml' mr B n ∧ RD mi' ml' B n p ∧ RNm mi' ml' N ∧ RPx mi' T S t ∧ (∀ r i, S r i → dU r i) ∧ mi' T 0 = nI k
section LSA
variable {mi mi' mi2 : MI} {ml ml' ml2 : ML} {mr : MR} {T n p q k : Nat} {B : Nat → Nat} {N N' : NS} {S : Nat → Nat → Prop} {t : TW}
theorem LZ.f2 (h : LZ mr mi ml T B n p N S t k mi' ml') (hT : TT T) (f : F2 mi' ml' mi2 ml2) (d : RD mi2 ml2 B n q) : LZ mr mi ml T B n q N S t k mi2 ml2 := by
  have h1 := hT.ge
  exact ⟨h.1.tr (f.ft T), h.2.1.f2 f, d, h.2.2.2.1.f2 f, h.2.2.2.2.1.cg h.2.2.2.2.2.1 (fun c _ => f.1 _ (by omega)), h.2.2.2.2.2.1, by rw [f.1 T (by omega)]; exact h.2.2.2.2.2.2⟩
theorem LZ.f5 (h : LZ mr mi ml T B n p N S t k mi' ml') (hT : TT T) (f : F5 mi' ml' mi2 ml2) (d : RD mi2 ml2 B n q) (nm : RNm mi2 ml2 N') : LZ mr mi ml T B n q N' S t k mi2 ml2 := by
  have h1 := hT.ge
  exact ⟨h.1.tr (f.ft T), h.2.1.f5 f, d, nm, h.2.2.2.2.1.cg h.2.2.2.2.2.1 (fun c _ => f.1 _ (by omega) (by omega) (by omega)), h.2.2.2.2.2.1, by rw [f.1 T (by omega) (by omega) (by omega)]; exact h.2.2.2.2.2.2⟩
theorem LZ.put (h : LZ mr mi ml T B n p N S t k mi' ml') (hT : TT T) {r i x a s : Nat} (hU : dU r i) (ha : a = T + cC r i) (hs : s = cD r i) : LZ mr mi ml T B n p N (fun r' i' => S r' i' ∨ (r' = r ∧ i' = i)) (ut t r i x) k (up mi' a s (nI x)) ml' := by
  have h1 := hT.ge
  have h6 := cC_60 hU
  have e : ∀ b, b < 100 → up mi' a s (nI x) b = mi' b := fun b hb => up_off _ _ (by omega)
  have ru := h.2.2.2.2.1.ut h.2.2.2.2.2.1 hU ha hs (x := x)
  refine ⟨⟨fun b y z w v => by rw [up_off _ _ (by omega)]; exact h.1.1 b y z w v, h.1.2.1, by rw [e 2 (by decide)]; exact h.1.2.2⟩, ⟨h.2.1.1, h.2.1.2.1, h.2.1.2.2.1, by rw [e 1 (by decide)]; exact h.2.1.2.2.2.1, by rw [e 2 (by decide)]; exact h.2.1.2.2.2.2.1, h.2.1.2.2.2.2.2⟩, ?_, ?_, ru.1, ru.2, ?_⟩
  · unfold RD; rw [e 2 (by decide)]; exact h.2.2.1
  · unfold RNm; rw [e 2 (by decide), e 6 (by decide), e 7 (by decide)]; exact h.2.2.2.1
  · rw [← h.2.2.2.2.2.2]
    by_cases q : cC r i = 0
    · rw [ha, q, Nat.add_zero, up_ne _ _ (fun w => cD_ne q (by omega))]
    · rw [up_off _ _ (by omega)]
theorem LZ.told (h : LZ mr mi ml T B n p N S t k mi' ml') (hT : TT T) : LZ mr mi ml T B n p N S t 1 (up mi' T 0 1) ml' := by
  have h1 := hT.ge
  have e : ∀ b, b < 100 → up mi' T 0 1 b = mi' b := fun b hb => up_off _ _ (by omega)
  refine ⟨⟨fun b y z w v => by rw [up_off _ _ (by omega)]; exact h.1.1 b y z w v, h.1.2.1, by rw [e 2 (by decide)]; exact h.1.2.2⟩, ⟨h.2.1.1, h.2.1.2.1, h.2.1.2.2.1, by rw [e 1 (by decide)]; exact h.2.1.2.2.2.1, by rw [e 2 (by decide)]; exact h.2.1.2.2.2.2.1, h.2.1.2.2.2.2.2⟩, ?_, ?_, fun r i hS => ?_, h.2.2.2.2.2.1, up_at _ _ _ _⟩
  · unfold RD; rw [e 2 (by decide)]; exact h.2.2.1
  · unfold RNm; rw [e 2 (by decide), e 6 (by decide), e 7 (by decide)]; exact h.2.2.2.1
  · rw [← h.2.2.2.2.1 r i hS]
    by_cases q : cC r i = 0
    · rw [q, Nat.add_zero, up_ne _ _ (fun w => cD_ne q w)]
    · rw [up_off _ _ (by omega)]
theorem LZ.rd (h : LZ mr mi ml T B n p N S t k mi' ml') (r i : Nat) (hS : S r i) : mi' (T + cC r i) (cD r i) = nI (t r i) := h.2.2.2.2.1 r i hS
end LSA
/-- what the names stand for -/
def NJ (N : NS) (a b : Nat) : Prop := ∀ k, k < N.1 → N.2.2.1 k ≤ 4 ∧ (N.2.2.1 k = 1 → N.2.2.2 k < a) ∧ (N.2.2.1 k = 3 → N.2.2.2 k < b)
theorem NI.nj {N : NS} {t : TW} (h : NI N t) : NJ N (t 0 3) (t 0 5) := fun k hk => by
  have := h.2.2 k hk
  exact ⟨by omega, this.1, this.2.1⟩
theorem NJ.ad {N : NS} {a b a' b' s k : Nat} {x : Int64} (h : NJ N a b) (hs : s ≤ 4) (h1 : s = 1 → k < a') (h3 : s = 3 → k < b') (ha : a ≤ a') (hb : b ≤ b') : NJ (adN N x s k) a' b' := fun j hj => by
  have hj : j < N.1 + 1 := hj
  show (if j = N.1 then s else N.2.2.1 j) ≤ 4 ∧ ((if j = N.1 then s else N.2.2.1 j) = 1 → (if j = N.1 then k else N.2.2.2 j) < a') ∧ ((if j = N.1 then s else N.2.2.1 j) = 3 → (if j = N.1 then k else N.2.2.2 j) < b')
  by_cases q : j = N.1
  · rw [if_pos q, if_pos q]; exact ⟨hs, h1, h3⟩
  · rw [if_neg q, if_neg q]
    have := h j (by omega)
    exact ⟨this.1, fun w => by have := this.2.1 w; omega, fun w => by have := this.2.2 w; omega⟩
theorem fN_lt {B : Nat → Nat} {n s p a b v : Nat} {N : NS} (h : NJ N a b) (he : fN B n N s p = .inr v) : (s = 1 → v < a) ∧ (s = 3 → v < b) := by
  unfold fN at he
  by_cases h1 : (tS B n p = 1 ∧ lsN B n p = 7)
  · rw [if_neg (fun q => q h1)] at he
    by_cases h2 : ixN N (tH B n p) = N.1 ∨ ¬ N.2.2.1 (ixN N (tH B n p)) = s
    · rw [if_pos h2] at he; exact absurd he (by simp)
    · rw [if_neg h2] at he
      have hle : ixN N (tH B n p) ≤ N.1 := rq_le _ _ _ (by omega)
      have := h (ixN N (tH B n p)) (by omega)
      injection he with he
      subst he
      exact ⟨fun q => this.2.1 (by omega), fun q => this.2.2 (by omega)⟩
  · rw [if_pos h1] at he; exact absurd he (by simp)
theorem nN_r {B : Nat → Nat} {n s k p : Nat} {N : NS} {q : Nat × NS} (he : nN B n N s k p = .inr q) : q = (tE B n p, adN N (tH B n p) s k) ∧ N.1 < 17 ∧ ixN N (tH B n p) = N.1 ∧ tS B n p = 1 ∧ lsN B n p = 7 := by
  unfold nN at he
  by_cases h1 : (tS B n p = 1 ∧ lsN B n p = 7)
  · rw [if_neg (fun q => q h1)] at he
    by_cases h2 : ixN N (tH B n p) < N.1 ∨ 17 ≤ N.1
    · rw [if_pos h2] at he; exact absurd he (by simp)
    · rw [if_neg h2] at he
      have hle : ixN N (tH B n p) ≤ N.1 := rq_le _ _ _ (by omega)
      injection he with he
      exact ⟨he.symm, by omega, by omega, h1.1, h1.2⟩
  · rw [if_pos h1] at he; exact absurd he (by simp)
theorem pN_r {B : Nat → Nat} {n lo hi p : Nat} {q : Nat × Nat} (he : pN B n lo hi p = .inr q) : lo ≤ q.2 ∧ q.2 ≤ hi := by
  unfold pN at he
  by_cases h1 : tS B n p = 2
  · rw [if_neg (fun q => q h1)] at he
    by_cases h2 : tV B n p < lo ∨ hi < tV B n p
    · rw [if_pos h2] at he; exact absurd he (by simp)
    · rw [if_neg h2] at he
      injection he with he
      subst he
      show lo ≤ tV B n p ∧ tV B n p ≤ hi
      omega
  · rw [if_pos h1] at he; exact absurd he (by simp)
theorem pL_r {B : Nat → Nat} {n m p : Nat} {q : Nat × Nat} (he : pL B n m p = .inr q) : q.2 < 4 ^ m := by
  unfold pL at he
  by_cases h1 : tS B n p = 1
  · rw [if_neg (fun q => q h1)] at he
    by_cases h2 : tE B n p - tA B n p = m
    · rw [if_neg (fun q => q h2)] at he
      by_cases h3 : rq (fun k => decide (B k ≤ 100)) (tE B n p) (tA B n p) < tE B n p
      · rw [if_pos h3] at he; exact absurd he (by simp)
      · rw [if_neg h3] at he
        injection he with he
        subst he
        show lk B (tA B n p) (tE B n p - tA B n p) < 4 ^ m
        rw [h2]
        have : ∀ k, k ≤ m → lk B (tA B n p) k < 4 ^ k := by
          intro k
          induction k with
          | zero => intro _; simp [lk]
          | succ k ih =>
            intro hk
            have := ih (by omega)
            have hb := (rq_in (fun k => decide (B k ≤ 100)) (tE B n p) (tA B n p) (tA B n p + k) (by omega) (by omega)).1
            have hb : B (tA B n p + k) ≤ 100 := of_decide_eq_true hb
            rw [lk, Nat.pow_succ]; omega
        exact this m (Nat.le_refl _)
    · rw [if_pos h2] at he; exact absurd he (by simp)
  · rw [if_pos h1] at he; exact absurd he (by simp)
theorem pK_r {B : Nat → Nat} {n p : Nat} {q : Nat × Nat} (he : pK B n p = .inr q) : q.2 ≤ 2 := by
  unfold pK at he
  by_cases h1 : tS B n p = 1 ∧ tH B n p = kc 12
  · rw [if_pos h1] at he; injection he with he; subst he; exact Nat.le_of_ble_eq_true rfl
  · rw [if_neg h1] at he
    by_cases h2 : tS B n p = 1 ∧ tH B n p = kc 13
    · rw [if_pos h2] at he; injection he with he; subst he; exact Nat.le_of_ble_eq_true rfl
    · rw [if_neg h2] at he
      by_cases h3 : tS B n p = 1 ∧ tH B n p = kc 14
      · rw [if_pos h3] at he; injection he with he; subst he; exact Nat.le_of_ble_eq_true rfl
      · rw [if_neg h3] at he; exact absurd he (by simp)
def hEL (post : PT) (mi : MI) (ml : ML) (mr : MR) (dom : List Nat) (T : Nat) (x : ER RS) : Prop := ∀ e, x = .inl e → ∀ mi' ml', FT T mi ml mi' ml' → mi' 2 0 = nI e.1 → mi' 2 1 = nI e.2 → post (some (.int 0)) mi' ml' mr dom
def hOL (post : PT) (mi : MI) (ml : ML) (mr : MR) (dom : List Nat) (B : Nat → Nat) (n T : Nat) (x : ER RS) : Prop := ∀ s, x = .inr s → ∀ mi' ml', FT T mi ml mi' ml' → RD mi' ml' B n s.1 → RNm mi' ml' s.2.1 → RP mi' T s.2.2 → post (some (.int 1)) mi' ml' mr dom
section C6e
variable {G : GG} {post : PT} {mi : MI} {ml : ML} {mr : MR} {dom : List Nat} {B : Nat → Nat} {n p T : Nat} {N : NS} {t : TW}
theorem c_readsTown (hT : TT T) (hB : RB mi ml mr B n) (hD : RD mi ml B n p) (hN : RNm mi ml N) (hI : NI N t) (hW : WT t) (hP : RP mi T t)  (hE : hEL post mi ml mr dom T (liT B n (p, N, t))) (hO : hOL post mi ml mr dom B n T (liT B n (p, N, t))) : CT G 9 0 0 yX6_readsTown cX6_readsTown 2 (some .boolean) [.ref 2, .ref T] mi ml mr dom post := by
  have hX := hB.1
  have hw := hW.1
  have hge := hT.ge
  have hJ := hI.nj
  have s0 : LZ mr mi ml T B n p N (dm t) t (if 0 < t 0 2 then 1 else 0) mi ml := ⟨FT.rfl' T mi ml, hB, hD, hN, hP.2, dm_U hW, hP.1⟩
  refine enter 0 (by decide) rfl rfl (fun X => ?_)
  refine j_aload_n dX6_readsTown_0 rfl rfl ?_
  refine cV6_87 (d1 := 3) rfl dX6_readsTown_1 (by decide) (Nat.le_of_ble_eq_true rfl) ?_
  refine c_step s0.2.1 s0.2.2.1.le s0.2.2.1.2.2.1 (fun m1 l1 f g8 d => ?_)
  have s1 := s0.f2 hT f d
  refine j_aload_n dX6_readsTown_4 rfl rfl ?_
  refine j_ldcS6_180 dX6_readsTown_5 ?_
  refine cV6_182 (d1 := 8) rfl dX6_readsTown_7 (by decide) (Nat.le_of_ble_eq_true rfl) ?_
  refine c_takesWord (i := 7) s1.2.1 s1.2.2.1 (by decide) (fun e he mi1 ml1 f g0 g1 => ?_) (fun q2 he2 m2 l2 f d g2 => ?_)
  · refine j_if_eq (tgt := 23) dX6_readsTown_10 (by decide) (fun _ => ?_) (fun h10 => absurd (by decide) h10)
    refine j_iconst (v := 0) dX6_readsTown_23 (by decide) ?_
    refine j_zret rfl (by decide) dX6_readsTown_24 ?_
    exact hE e (by simp only [liT, he, eb_r, eb_l]) mi1 ml1 (s1.1.tr (f.ft T)) g0 g1
  · have s2 := s1.f2 hT f d
    refine j_if_eq (tgt := 23) dX6_readsTown_10 (by decide) (fun h10 => absurd h10 (by decide)) (fun _ => ?_)
    refine j_aload_n dX6_readsTown_13 rfl rfl ?_
    refine j_iconst (v := 4) dX6_readsTown_14 (by decide) ?_
    refine j_bipush (v := 11) dX6_readsTown_15 (by decide) ?_
    refine cV6_186 (d1 := 4) rfl dX6_readsTown_17 (by decide) (Nat.le_of_ble_eq_true rfl) ?_
    refine c_takesWhole (lo := 4) (hi := 11) s2.2.1 s2.2.2.1 (by decide) (by decide) (fun e he mi1 ml1 f g0 g1 => ?_) (fun q3 he3 m3 l3 f d g3 => ?_)
    · refine j_if_ne (tgt := 25) dX6_readsTown_20 (by decide) (fun h20 => absurd (by decide) h20) (fun _ => ?_)
      refine j_iconst (v := 0) dX6_readsTown_23 (by decide) ?_
      refine j_zret rfl (by decide) dX6_readsTown_24 ?_
      exact hE e (by simp only [liT, he2, he, eb_r, eb_l]) mi1 ml1 (s2.1.tr (f.ft T)) g0 g1
    · have s3 := s2.f2 hT f d
      refine j_if_ne (tgt := 25) dX6_readsTown_20 (by decide) (fun _ => ?_) (fun h20 => absurd h20 (by decide))
      refine j_aload_n dX6_readsTown_25 rfl rfl ?_
      refine j_aload_n dX6_readsTown_26 rfl rfl ?_
      refine gI6_38 rfl dX6_readsTown_27 ?_
      rw [g3 _ rfl]
      refine pI6_190 (kT0 hT) dX6_readsTown_30 ?_
      have s4 := s3.put hT (r := 0) (i := 0) (x := q3.2) (a := T) (s := 1) (by unfold dU; omega) rfl rfl
      have g4 : up m3 (T) (1) (nI (q3.2)) 2 8 = nI (q3.2) := by rw [up_off _ _ (by omega)]; exact g3 _ rfl 
      generalize up m3 (T) (1) (nI (q3.2)) = m4 at s4 g4 ⊢
      refine j_aload_n dX6_readsTown_33 rfl rfl ?_
      refine j_ldcS6_192 dX6_readsTown_34 ?_
      refine cV6_182 (d1 := 8) rfl dX6_readsTown_36 (by decide) (Nat.le_of_ble_eq_true rfl) ?_
      refine c_takesWord (i := 8) s4.2.1 s4.2.2.1 (by decide) (fun e he mi1 ml1 f g0 g1 => ?_) (fun q5 he5 m5 l5 f d g5 => ?_)
      · refine j_if_eq (tgt := 53) dX6_readsTown_39 (by decide) (fun _ => ?_) (fun h39 => absurd (by decide) h39)
        refine j_iconst (v := 0) dX6_readsTown_53 (by decide) ?_
        refine j_zret rfl (by decide) dX6_readsTown_54 ?_
        exact hE e (by simp only [liT, he2, he3, he, eb_r, eb_l]) mi1 ml1 (s4.1.tr (f.ft T)) g0 g1
      · have s5 := s4.f2 hT f d
        refine j_if_eq (tgt := 53) dX6_readsTown_39 (by decide) (fun h39 => absurd h39 (by decide)) (fun _ => ?_)
        refine j_aload_n dX6_readsTown_42 rfl rfl ?_
        refine j_bipush (v := 12) dX6_readsTown_43 (by decide) ?_
        refine j_bipush (v := 22) dX6_readsTown_45 (by decide) ?_
        refine cV6_186 (d1 := 4) rfl dX6_readsTown_47 (by decide) (Nat.le_of_ble_eq_true rfl) ?_
        refine c_takesWhole (lo := 12) (hi := 22) s5.2.1 s5.2.2.1 (by decide) (by decide) (fun e he mi1 ml1 f g0 g1 => ?_) (fun q6 he6 m6 l6 f d g6 => ?_)
        · refine j_if_ne (tgt := 55) dX6_readsTown_50 (by decide) (fun h50 => absurd (by decide) h50) (fun _ => ?_)
          refine j_iconst (v := 0) dX6_readsTown_53 (by decide) ?_
          refine j_zret rfl (by decide) dX6_readsTown_54 ?_
          exact hE e (by simp only [liT, he2, he3, he5, he, eb_r, eb_l]) mi1 ml1 (s5.1.tr (f.ft T)) g0 g1
        · have s6 := s5.f2 hT f d
          refine j_if_ne (tgt := 55) dX6_readsTown_50 (by decide) (fun _ => ?_) (fun h50 => absurd h50 (by decide))
          refine j_aload_n dX6_readsTown_55 rfl rfl ?_
          refine j_aload_n dX6_readsTown_56 rfl rfl ?_
          refine gI6_38 rfl dX6_readsTown_57 ?_
          rw [g6 _ rfl]
          refine pI6_194 (kT0 hT) dX6_readsTown_60 ?_
          have s7 := s6.put hT (r := 0) (i := 1) (x := q6.2) (a := T) (s := 2) (by unfold dU; omega) rfl rfl
          have g7 : up m6 (T) (2) (nI (q6.2)) 2 8 = nI (q6.2) := by rw [up_off _ _ (by omega)]; exact g6 _ rfl 
          generalize up m6 (T) (2) (nI (q6.2)) = m7 at s7 g7 ⊢
          refine j_aload_n dX6_readsTown_63 rfl rfl ?_
          refine j_ldcS6_196 dX6_readsTown_64 ?_
          refine cV6_182 (d1 := 8) rfl dX6_readsTown_66 (by decide) (Nat.le_of_ble_eq_true rfl) ?_
          refine c_takesWord (i := 9) s7.2.1 s7.2.2.1 (by decide) (fun e he mi1 ml1 f g0 g1 => ?_) (fun q8 he8 m8 l8 f d g8 => ?_)
          · refine j_if_eq (tgt := 83) dX6_readsTown_69 (by decide) (fun _ => ?_) (fun h69 => absurd (by decide) h69)
            refine j_iconst (v := 0) dX6_readsTown_83 (by decide) ?_
            refine j_zret rfl (by decide) dX6_readsTown_84 ?_
            exact hE e (by simp only [liT, he2, he3, he5, he6, he, eb_r, eb_l]) mi1 ml1 (s7.1.tr (f.ft T)) g0 g1
          · have s8 := s7.f2 hT f d
            refine j_if_eq (tgt := 83) dX6_readsTown_69 (by decide) (fun h69 => absurd h69 (by decide)) (fun _ => ?_)
            refine j_aload_n dX6_readsTown_72 rfl rfl ?_
            refine j_bipush (v := 60) dX6_readsTown_73 (by decide) ?_
            refine j_bipush (v := 120) dX6_readsTown_75 (by decide) ?_
            refine cV6_186 (d1 := 4) rfl dX6_readsTown_77 (by decide) (Nat.le_of_ble_eq_true rfl) ?_
            refine c_takesWhole (lo := 60) (hi := 120) s8.2.1 s8.2.2.1 (by decide) (by decide) (fun e he mi1 ml1 f g0 g1 => ?_) (fun q9 he9 m9 l9 f d g9 => ?_)
            · refine j_if_ne (tgt := 85) dX6_readsTown_80 (by decide) (fun h80 => absurd (by decide) h80) (fun _ => ?_)
              refine j_iconst (v := 0) dX6_readsTown_83 (by decide) ?_
              refine j_zret rfl (by decide) dX6_readsTown_84 ?_
              exact hE e (by simp only [liT, he2, he3, he5, he6, he8, he, eb_r, eb_l]) mi1 ml1 (s8.1.tr (f.ft T)) g0 g1
            · have s9 := s8.f2 hT f d
              refine j_if_ne (tgt := 85) dX6_readsTown_80 (by decide) (fun _ => ?_) (fun h80 => absurd h80 (by decide))
              refine j_aload_n dX6_readsTown_85 rfl rfl ?_
              refine j_aload_n dX6_readsTown_86 rfl rfl ?_
              refine gI6_38 rfl dX6_readsTown_87 ?_
              rw [g9 _ rfl]
              refine pI6_198 (kT0 hT) dX6_readsTown_90 ?_
              have s10 := s9.put hT (r := 0) (i := 2) (x := q9.2) (a := T) (s := 3) (by unfold dU; omega) rfl rfl
              have g10 : up m9 (T) (3) (nI (q9.2)) 2 8 = nI (q9.2) := by rw [up_off _ _ (by omega)]; exact g9 _ rfl 
              generalize up m9 (T) (3) (nI (q9.2)) = m10 at s10 g10 ⊢
              refine j_aload_n dX6_readsTown_93 rfl rfl ?_
              refine j_iconst (v := 1) dX6_readsTown_94 (by decide) ?_
              refine pI6_137 (kT0 hT) (by decide) dX6_readsTown_95 ?_
              have s11 := s10.told hT
              generalize up m10 T 0 1 = m11 at s11 ⊢
              refine j_iconst (v := 1) dX6_readsTown_98 (by decide) ?_
              refine j_zret rfl (by decide) dX6_readsTown_99 ?_
              refine hO (q9.1, N, ut (ut (ut t 0 0 q3.2) 0 1 q6.2) 0 2 q9.2) (by simp only [liT, he2, he3, he5, he6, he8, he9, eb_r, eb_l]) m11 l9 s11.1 s11.2.2.1 s11.2.2.2.1 ⟨(by have z := s11.2.2.2.2.2.2; have y := pN_r he9; rw [z]; show nI 1 = nI (if 0 < q9.2 then 1 else 0); rw [if_pos (by omega)]), s11.2.2.2.2.1.mono (fun r i h => ?_)⟩
              have h : (r = 0 ∧ i < 9 ∧ (i < 3 → 0 < q9.2)) ∨ (r = 1 ∧ i < t 0 3) ∨ (r = 2 ∧ i < 36) ∨ (4 ≤ r ∧ r ≤ 6 ∧ i < t 0 5) ∨ (r = 7 ∧ i < 5 * (t 0 5)) ∨ (8 ≤ r ∧ r ≤ 10 ∧ i < t 0 6) ∨ (11 ≤ r ∧ r ≤ 13 ∧ i < t 0 7) ∨ (14 ≤ r ∧ r ≤ 16 ∧ i < t 0 8) := h
              rcases h with h | h | h | h | h | h | h | h
              · by_cases e : i < 3
                · have e2 : i = 0 ∨ i = 1 ∨ i = 2 := by omega
                  rcases e2 with e2 | e2 | e2
                  · exact (Or.inl (Or.inl (Or.inr ⟨h.1, e2⟩)))
                  · exact (Or.inl (Or.inr ⟨h.1, e2⟩))
                  · exact (Or.inr ⟨h.1, e2⟩)
                · exact (Or.inl (Or.inl (Or.inl (Or.inl ⟨h.1, h.2.1, fun z => absurd z e⟩))))
              · exact (Or.inl (Or.inl (Or.inl (Or.inr (Or.inl h)))))
              · exact (Or.inl (Or.inl (Or.inl (Or.inr (Or.inr (Or.inl h))))))
              · exact (Or.inl (Or.inl (Or.inl (Or.inr (Or.inr (Or.inr (Or.inl h)))))))
              · exact (Or.inl (Or.inl (Or.inl (Or.inr (Or.inr (Or.inr (Or.inr (Or.inl h))))))))
              · exact (Or.inl (Or.inl (Or.inl (Or.inr (Or.inr (Or.inr (Or.inr (Or.inr (Or.inl h)))))))))
              · exact (Or.inl (Or.inl (Or.inl (Or.inr (Or.inr (Or.inr (Or.inr (Or.inr (Or.inr (Or.inl h))))))))))
              · exact (Or.inl (Or.inl (Or.inl (Or.inr (Or.inr (Or.inr (Or.inr (Or.inr (Or.inr (Or.inr h))))))))))
theorem c_readsHouse (hT : TT T) (hB : RB mi ml mr B n) (hD : RD mi ml B n p) (hN : RNm mi ml N) (hI : NI N t) (hW : WT t) (hP : RP mi T t) (hc : t 0 3 < 6) (hE : hEL post mi ml mr dom T (liH B n (p, N, t))) (hO : hOL post mi ml mr dom B n T (liH B n (p, N, t))) : CT G 9 0 0 yX6_readsHouse cX6_readsHouse 2 (some .boolean) [.ref 2, .ref T] mi ml mr dom post := by
  have hX := hB.1
  have hw := hW.1
  have hge := hT.ge
  have hJ := hI.nj
  have s0 : LZ mr mi ml T B n p N (dm t) t (if 0 < t 0 2 then 1 else 0) mi ml := ⟨FT.rfl' T mi ml, hB, hD, hN, hP.2, dm_U hW, hP.1⟩
  refine enter 0 (by decide) rfl rfl (fun X => ?_)
  refine j_aload_n dX6_readsHouse_0 rfl rfl ?_
  refine cV6_87 (d1 := 3) rfl dX6_readsHouse_1 (by decide) (Nat.le_of_ble_eq_true rfl) ?_
  refine c_step s0.2.1 s0.2.2.1.le s0.2.2.1.2.2.1 (fun m1 l1 f g8 d => ?_)
  have s1 := s0.f2 hT f d
  refine j_aload_n dX6_readsHouse_4 rfl rfl ?_
  refine j_iconst (v := 1) dX6_readsHouse_5 (by decide) ?_
  refine j_aload_n dX6_readsHouse_6 rfl rfl ?_
  refine gI6_101 (kT0 hT) dX6_readsHouse_7 ?_
  rw [show m1 T 4 = nI (t 0 3) from s1.rd 0 3 (Or.inl ⟨rfl, by decide, fun q => absurd q (by decide)⟩)]
  refine cV6_200 (d1 := 4) rfl dX6_readsHouse_10 (by decide) (Nat.le_of_ble_eq_true rfl) ?_
  refine c_takesNewName (s := 1) (k := t 0 3) s1.2.1 s1.2.2.1 s1.2.2.2.1 (fun e he mi1 ml1 f g0 g1 => ?_) (fun q2 he2 m2 l2 f d nm => ?_)
  · refine j_if_eq (tgt := 36) dX6_readsHouse_13 (by decide) (fun _ => ?_) (fun h13 => absurd (by decide) h13)
    refine j_iconst (v := 0) dX6_readsHouse_36 (by decide) ?_
    refine j_zret rfl (by decide) dX6_readsHouse_37 ?_
    exact hE e (by simp only [liH, he, eb_r, eb_l]) mi1 ml1 (s1.1.tr (f.ft T)) g0 g1
  · have s2 := s1.f5 hT f d nm
    have hJ2 : NJ q2.2 (t 0 3 + 1) (t 0 5) := by rw [(nN_r he2).1]; exact hJ.ad (by decide) (fun _ => by omega) (fun q => absurd q (by decide)) (by omega) (by omega)
    refine j_if_eq (tgt := 36) dX6_readsHouse_13 (by decide) (fun h13 => absurd h13 (by decide)) (fun _ => ?_)
    refine j_aload_n dX6_readsHouse_16 rfl rfl ?_
    refine j_ldcS6_203 dX6_readsHouse_17 ?_
    refine cV6_182 (d1 := 8) rfl dX6_readsHouse_19 (by decide) (Nat.le_of_ble_eq_true rfl) ?_
    refine c_takesWord (i := 10) s2.2.1 s2.2.2.1 (by decide) (fun e he mi1 ml1 f g0 g1 => ?_) (fun q3 he3 m3 l3 f d g3 => ?_)
    · refine j_if_eq (tgt := 36) dX6_readsHouse_22 (by decide) (fun _ => ?_) (fun h22 => absurd (by decide) h22)
      refine j_iconst (v := 0) dX6_readsHouse_36 (by decide) ?_
      refine j_zret rfl (by decide) dX6_readsHouse_37 ?_
      exact hE e (by simp only [liH, he2, he, eb_r, eb_l]) mi1 ml1 (s2.1.tr (f.ft T)) g0 g1
    · have s3 := s2.f2 hT f d
      refine j_if_eq (tgt := 36) dX6_readsHouse_22 (by decide) (fun h22 => absurd h22 (by decide)) (fun _ => ?_)
      refine j_aload_n dX6_readsHouse_25 rfl rfl ?_
      refine j_bipush (v := 10) dX6_readsHouse_26 (by decide) ?_
      refine j_bipush (v := 59) dX6_readsHouse_28 (by decide) ?_
      refine cV6_186 (d1 := 4) rfl dX6_readsHouse_30 (by decide) (Nat.le_of_ble_eq_true rfl) ?_
      refine c_takesWhole (lo := 10) (hi := 59) s3.2.1 s3.2.2.1 (by decide) (by decide) (fun e he mi1 ml1 f g0 g1 => ?_) (fun q4 he4 m4 l4 f d g4 => ?_)
      · refine j_if_ne (tgt := 38) dX6_readsHouse_33 (by decide) (fun h33 => absurd (by decide) h33) (fun _ => ?_)
        refine j_iconst (v := 0) dX6_readsHouse_36 (by decide) ?_
        refine j_zret rfl (by decide) dX6_readsHouse_37 ?_
        exact hE e (by simp only [liH, he2, he3, he, eb_r, eb_l]) mi1 ml1 (s3.1.tr (f.ft T)) g0 g1
      · have s4 := s3.f2 hT f d
        refine j_if_ne (tgt := 38) dX6_readsHouse_33 (by decide) (fun _ => ?_) (fun h33 => absurd h33 (by decide))
        refine j_aload_n dX6_readsHouse_38 rfl rfl ?_
        refine gR6_205 (kT0 hT) dX6_readsHouse_39 (xT_sills hX hT) ?_
        refine j_aload_n dX6_readsHouse_42 rfl rfl ?_
        refine gI6_101 (kT0 hT) dX6_readsHouse_43 ?_
        rw [show m4 T 4 = nI (t 0 3) from s4.rd 0 3 (Or.inl ⟨rfl, by decide, fun q => absurd q (by decide)⟩)]
        refine j_aload_n dX6_readsHouse_46 rfl rfl ?_
        refine gI6_38 rfl dX6_readsHouse_47 ?_
        rw [g4 _ rfl]
        refine j_iast (kT1 hT) (inT (lT1 hT) (show t 0 3 < 6 by omega) (by decide)) dX6_readsHouse_50 ?_
        rw [nI_clamp (by omega)]
        have s5 := s4.put hT (r := 1) (i := t 0 3) (x := q4.2) (a := T + 1) (s := t 0 3) (by unfold dU; omega) rfl rfl
        have g5 : up m4 (T + 1) (t 0 3) (nI (q4.2)) 2 8 = nI (q4.2) := by rw [up_off _ _ (by omega)]; exact g4 _ rfl 
        generalize up m4 (T + 1) (t 0 3) (nI (q4.2)) = m5 at s5 g5 ⊢
        refine j_aload_n dX6_readsHouse_51 rfl rfl ?_
        refine j_dup dX6_readsHouse_52 rfl ?_
        refine gI6_101 (kT0 hT) dX6_readsHouse_53 ?_
        rw [show m5 T 4 = nI (t 0 3) from s5.rd 0 3 (Or.inl (Or.inl ⟨rfl, by decide, fun q => absurd q (by decide)⟩))]
        refine j_iconst (v := 1) dX6_readsHouse_56 (by decide) ?_
        refine j_iadd dX6_readsHouse_57 ?_
        rw [nI_1]
        refine pI6_101 (kT0 hT) dX6_readsHouse_58 ?_
        have s6 := s5.put hT (r := 0) (i := 3) (x := t 0 3 + 1) (a := T) (s := 4) (by unfold dU; omega) rfl rfl
        have g6 : up m5 (T) (4) (nI (t 0 3 + 1)) 2 8 = nI (q4.2) := by rw [up_off _ _ (by omega)]; exact g5 
        generalize up m5 (T) (4) (nI (t 0 3 + 1)) = m6 at s6 g6 ⊢
        refine j_iconst (v := 1) dX6_readsHouse_61 (by decide) ?_
        refine j_zret rfl (by decide) dX6_readsHouse_62 ?_
        refine hO (q4.1, q2.2, ut (ut t 1 (t 0 3) q4.2) 0 3 (t 0 3 + 1)) (by simp only [liH, he2, he3, he4, eb_r, eb_l]) m6 l4 s6.1 s6.2.2.1 s6.2.2.2.1 ⟨s6.2.2.2.2.2.2, s6.2.2.2.2.1.mono (fun r i h => ?_)⟩
        have h : (r = 0 ∧ i < 9 ∧ (i < 3 → 0 < t 0 2)) ∨ (r = 1 ∧ i < t 0 3 + 1) ∨ (r = 2 ∧ i < 36) ∨ (4 ≤ r ∧ r ≤ 6 ∧ i < t 0 5) ∨ (r = 7 ∧ i < 5 * (t 0 5)) ∨ (8 ≤ r ∧ r ≤ 10 ∧ i < t 0 6) ∨ (11 ≤ r ∧ r ≤ 13 ∧ i < t 0 7) ∨ (14 ≤ r ∧ r ≤ 16 ∧ i < t 0 8) := h
        rcases h with h | h | h | h | h | h | h | h
        · exact (Or.inl (Or.inl (Or.inl h)))
        · by_cases e : i < t 0 3
          · exact (Or.inl (Or.inl (Or.inr (Or.inl ⟨h.1, e⟩))))
          · exact (Or.inl (Or.inr ⟨h.1, by omega⟩))
        · exact (Or.inl (Or.inl (Or.inr (Or.inr (Or.inl h)))))
        · exact (Or.inl (Or.inl (Or.inr (Or.inr (Or.inr (Or.inl h))))))
        · exact (Or.inl (Or.inl (Or.inr (Or.inr (Or.inr (Or.inr (Or.inl h)))))))
        · exact (Or.inl (Or.inl (Or.inr (Or.inr (Or.inr (Or.inr (Or.inr (Or.inl h))))))))
        · exact (Or.inl (Or.inl (Or.inr (Or.inr (Or.inr (Or.inr (Or.inr (Or.inr (Or.inl h)))))))))
        · exact (Or.inl (Or.inl (Or.inr (Or.inr (Or.inr (Or.inr (Or.inr (Or.inr (Or.inr h)))))))))
theorem c_readsVisit (hT : TT T) (hB : RB mi ml mr B n) (hD : RD mi ml B n p) (hN : RNm mi ml N) (hI : NI N t) (hW : WT t) (hP : RP mi T t) (hc : t 0 7 < 8) (hE : hEL post mi ml mr dom T (liV B n (p, N, t))) (hO : hOL post mi ml mr dom B n T (liV B n (p, N, t))) : CT G 9 0 0 yX6_readsVisit cX6_readsVisit 3 (some .boolean) [.ref 2, .ref T] mi ml mr dom post := by
  have hX := hB.1
  have hw := hW.1
  have hge := hT.ge
  have hJ := hI.nj
  have s0 : LZ mr mi ml T B n p N (dm t) t (if 0 < t 0 2 then 1 else 0) mi ml := ⟨FT.rfl' T mi ml, hB, hD, hN, hP.2, dm_U hW, hP.1⟩
  refine enter 1 (by decide) rfl rfl (fun X => ?_)
  refine j_aload_n dX6_readsVisit_0 rfl rfl ?_
  refine gR6_280 (kT0 hT) dX6_readsVisit_1 (xT_calls hX hT) ?_
  refine j_aload_n dX6_readsVisit_4 rfl rfl ?_
  refine gI6_168 (kT0 hT) dX6_readsVisit_5 ?_
  rw [show mi T 7 = nI (t 0 7) from s0.rd 0 7 (Or.inl ⟨rfl, by decide, fun q => absurd q (by decide)⟩)]
  refine j_aald (C := RX10) (kT7 hT) (by decide) (fun _ => rfl) (inT (lT7 hT) (show t 0 7 < 8 by omega) (by decide)) (mr_nI (by omega) (xT_v hX hT (show t 0 7 < 8 by omega))) dX6_readsVisit_8 (by decide) ?_
  refine j_astore_n (lv2 := [_, _, _]) dX6_readsVisit_9 rfl (by decide) rfl rfl ?_
  refine j_aload_n dX6_readsVisit_10 rfl rfl ?_
  refine cV6_87 (d1 := 3) rfl dX6_readsVisit_11 (by decide) (Nat.le_of_ble_eq_true rfl) ?_
  refine c_step s0.2.1 s0.2.2.1.le s0.2.2.1.2.2.1 (fun m1 l1 f g8 d => ?_)
  have s1 := s0.f2 hT f d
  refine j_aload_n dX6_readsVisit_14 rfl rfl ?_
  refine j_iconst (v := 3) dX6_readsVisit_15 (by decide) ?_
  refine cV6_208 (d1 := 4) rfl dX6_readsVisit_16 (by decide) (Nat.le_of_ble_eq_true rfl) ?_
  refine c_takesName (s := 3) s1.2.1 s1.2.2.1 s1.2.2.2.1 (fun k hk => by have := (hJ k hk).1; omega) (by decide) (fun e he mi1 ml1 f g0 g1 => ?_) (fun q2 he2 m2 l2 f d g2 => ?_)
  · refine j_if_ne (tgt := 24) dX6_readsVisit_19 (by decide) (fun h19 => absurd (by decide) h19) (fun _ => ?_)
    refine j_iconst (v := 0) dX6_readsVisit_22 (by decide) ?_
    refine j_zret rfl (by decide) dX6_readsVisit_23 ?_
    exact hE e (by simp only [liV, he, eb_r, eb_l]) mi1 ml1 (s1.1.tr (f.ft T)) g0 g1
  · have s2 := s1.f2 hT f d
    refine j_if_ne (tgt := 24) dX6_readsVisit_19 (by decide) (fun _ => ?_) (fun h19 => absurd h19 (by decide))
    refine j_aload_n dX6_readsVisit_24 rfl rfl ?_
    refine j_aload_n dX6_readsVisit_25 rfl rfl ?_
    refine gI6_38 rfl dX6_readsVisit_26 ?_
    rw [g2 _ rfl]
    refine pI6_284 (kV hT (show t 0 7 < 8 by omega)) dX6_readsVisit_29 ?_
    have s3 := s2.put hT (r := 11) (i := t 0 7) (x := q2) (a := T + 40 + t 0 7) (s := 0) (by unfold dU; omega) (Nat.add_assoc T 40 (t 0 7)) rfl
    have g3 : up m2 (T + 40 + t 0 7) (0) (nI (q2)) 2 8 = nI (q2) := by rw [up_off _ _ (by omega)]; exact g2 _ rfl 
    generalize up m2 (T + 40 + t 0 7) (0) (nI (q2)) = m3 at s3 g3 ⊢
    refine j_aload_n dX6_readsVisit_32 rfl rfl ?_
    refine j_iconst (v := 1) dX6_readsVisit_33 (by decide) ?_
    refine cV6_208 (d1 := 4) rfl dX6_readsVisit_34 (by decide) (Nat.le_of_ble_eq_true rfl) ?_
    refine c_takesName (s := 1) s3.2.1 s3.2.2.1 s3.2.2.2.1 (fun k hk => by have := (hJ k hk).1; omega) (by decide) (fun e he mi1 ml1 f g0 g1 => ?_) (fun q4 he4 m4 l4 f d g4 => ?_)
    · refine j_if_ne (tgt := 42) dX6_readsVisit_37 (by decide) (fun h37 => absurd (by decide) h37) (fun _ => ?_)
      refine j_iconst (v := 0) dX6_readsVisit_40 (by decide) ?_
      refine j_zret rfl (by decide) dX6_readsVisit_41 ?_
      exact hE e (by simp only [liV, he2, he, eb_r, eb_l]) mi1 ml1 (s3.1.tr (f.ft T)) g0 g1
    · have s4 := s3.f2 hT f d
      refine j_if_ne (tgt := 42) dX6_readsVisit_37 (by decide) (fun _ => ?_) (fun h37 => absurd h37 (by decide))
      refine j_aload_n dX6_readsVisit_42 rfl rfl ?_
      refine j_aload_n dX6_readsVisit_43 rfl rfl ?_
      refine gI6_38 rfl dX6_readsVisit_44 ?_
      rw [g4 _ rfl]
      refine pI6_289 (kV hT (show t 0 7 < 8 by omega)) dX6_readsVisit_47 ?_
      have s5 := s4.put hT (r := 12) (i := t 0 7) (x := q4) (a := T + 40 + t 0 7) (s := 1) (by unfold dU; omega) (Nat.add_assoc T 40 (t 0 7)) rfl
      have g5 : up m4 (T + 40 + t 0 7) (1) (nI (q4)) 2 8 = nI (q4) := by rw [up_off _ _ (by omega)]; exact g4 _ rfl 
      generalize up m4 (T + 40 + t 0 7) (1) (nI (q4)) = m5 at s5 g5 ⊢
      refine j_aload_n dX6_readsVisit_50 rfl rfl ?_
      refine j_ldcS6_292 dX6_readsVisit_51 ?_
      refine cV6_182 (d1 := 8) rfl dX6_readsVisit_54 (by decide) (Nat.le_of_ble_eq_true rfl) ?_
      refine c_takesWord (i := 22) s5.2.1 s5.2.2.1 (by decide) (fun e he mi1 ml1 f g0 g1 => ?_) (fun q6 he6 m6 l6 f d g6 => ?_)
      · refine j_if_eq (tgt := 70) dX6_readsVisit_57 (by decide) (fun _ => ?_) (fun h57 => absurd (by decide) h57)
        refine j_iconst (v := 0) dX6_readsVisit_70 (by decide) ?_
        refine j_zret rfl (by decide) dX6_readsVisit_71 ?_
        exact hE e (by simp only [liV, he2, he4, he, eb_r, eb_l]) mi1 ml1 (s5.1.tr (f.ft T)) g0 g1
      · have s6 := s5.f2 hT f d
        refine j_if_eq (tgt := 70) dX6_readsVisit_57 (by decide) (fun h57 => absurd h57 (by decide)) (fun _ => ?_)
        refine j_aload_n dX6_readsVisit_60 rfl rfl ?_
        refine j_iconst (v := 0) dX6_readsVisit_61 (by decide) ?_
        refine j_bipush (v := 23) dX6_readsVisit_62 (by decide) ?_
        refine cV6_186 (d1 := 4) rfl dX6_readsVisit_64 (by decide) (Nat.le_of_ble_eq_true rfl) ?_
        refine c_takesWhole (lo := 0) (hi := 23) s6.2.1 s6.2.2.1 (by decide) (by decide) (fun e he mi1 ml1 f g0 g1 => ?_) (fun q7 he7 m7 l7 f d g7 => ?_)
        · refine j_if_ne (tgt := 72) dX6_readsVisit_67 (by decide) (fun h67 => absurd (by decide) h67) (fun _ => ?_)
          refine j_iconst (v := 0) dX6_readsVisit_70 (by decide) ?_
          refine j_zret rfl (by decide) dX6_readsVisit_71 ?_
          exact hE e (by simp only [liV, he2, he4, he6, he, eb_r, eb_l]) mi1 ml1 (s6.1.tr (f.ft T)) g0 g1
        · have s7 := s6.f2 hT f d
          refine j_if_ne (tgt := 72) dX6_readsVisit_67 (by decide) (fun _ => ?_) (fun h67 => absurd h67 (by decide))
          refine j_aload_n dX6_readsVisit_72 rfl rfl ?_
          refine j_aload_n dX6_readsVisit_73 rfl rfl ?_
          refine gI6_38 rfl dX6_readsVisit_74 ?_
          rw [g7 _ rfl]
          refine pI6_294 (kV hT (show t 0 7 < 8 by omega)) dX6_readsVisit_77 ?_
          have s8 := s7.put hT (r := 13) (i := t 0 7) (x := q7.2) (a := T + 40 + t 0 7) (s := 2) (by unfold dU; omega) (Nat.add_assoc T 40 (t 0 7)) rfl
          have g8 : up m7 (T + 40 + t 0 7) (2) (nI (q7.2)) 2 8 = nI (q7.2) := by rw [up_off _ _ (by omega)]; exact g7 _ rfl 
          generalize up m7 (T + 40 + t 0 7) (2) (nI (q7.2)) = m8 at s8 g8 ⊢
          refine j_aload_n dX6_readsVisit_80 rfl rfl ?_
          refine j_dup dX6_readsVisit_81 rfl ?_
          refine gI6_168 (kT0 hT) dX6_readsVisit_82 ?_
          rw [show m8 T 7 = nI (t 0 7) from s8.rd 0 7 (Or.inl (Or.inl (Or.inl (Or.inl ⟨rfl, by decide, fun q => absurd q (by decide)⟩))))]
          refine j_iconst (v := 1) dX6_readsVisit_85 (by decide) ?_
          refine j_iadd dX6_readsVisit_86 ?_
          rw [nI_1]
          refine pI6_168 (kT0 hT) dX6_readsVisit_87 ?_
          have s9 := s8.put hT (r := 0) (i := 7) (x := t 0 7 + 1) (a := T) (s := 7) (by unfold dU; omega) rfl rfl
          have g9 : up m8 (T) (7) (nI (t 0 7 + 1)) 2 8 = nI (q7.2) := by rw [up_off _ _ (by omega)]; exact g8 
          generalize up m8 (T) (7) (nI (t 0 7 + 1)) = m9 at s9 g9 ⊢
          refine j_iconst (v := 1) dX6_readsVisit_90 (by decide) ?_
          refine j_zret rfl (by decide) dX6_readsVisit_91 ?_
          refine hO (q7.1, N, ut (ut (ut (ut t 11 (t 0 7) q2) 12 (t 0 7) q4) 13 (t 0 7) q7.2) 0 7 (t 0 7 + 1)) (by simp only [liV, he2, he4, he6, he7, eb_r, eb_l]) m9 l7 s9.1 s9.2.2.1 s9.2.2.2.1 ⟨s9.2.2.2.2.2.2, s9.2.2.2.2.1.mono (fun r i h => ?_)⟩
          have h : (r = 0 ∧ i < 9 ∧ (i < 3 → 0 < t 0 2)) ∨ (r = 1 ∧ i < t 0 3) ∨ (r = 2 ∧ i < 36) ∨ (4 ≤ r ∧ r ≤ 6 ∧ i < t 0 5) ∨ (r = 7 ∧ i < 5 * (t 0 5)) ∨ (8 ≤ r ∧ r ≤ 10 ∧ i < t 0 6) ∨ (11 ≤ r ∧ r ≤ 13 ∧ i < t 0 7 + 1) ∨ (14 ≤ r ∧ r ≤ 16 ∧ i < t 0 8) := h
          rcases h with h | h | h | h | h | h | h | h
          · exact (Or.inl (Or.inl (Or.inl (Or.inl (Or.inl h)))))
          · exact (Or.inl (Or.inl (Or.inl (Or.inl (Or.inr (Or.inl h))))))
          · exact (Or.inl (Or.inl (Or.inl (Or.inl (Or.inr (Or.inr (Or.inl h)))))))
          · exact (Or.inl (Or.inl (Or.inl (Or.inl (Or.inr (Or.inr (Or.inr (Or.inl h))))))))
          · exact (Or.inl (Or.inl (Or.inl (Or.inl (Or.inr (Or.inr (Or.inr (Or.inr (Or.inl h)))))))))
          · exact (Or.inl (Or.inl (Or.inl (Or.inl (Or.inr (Or.inr (Or.inr (Or.inr (Or.inr (Or.inl h))))))))))
          · by_cases e : i < t 0 7
            · exact (Or.inl (Or.inl (Or.inl (Or.inl (Or.inr (Or.inr (Or.inr (Or.inr (Or.inr (Or.inr (Or.inl ⟨h.1, h.2.1, e⟩)))))))))))
            · have e2 : r = 11 ∨ r = 12 ∨ r = 13 := by omega
              have e3 : i = t 0 7 := by omega
              rcases e2 with e2 | e2 | e2
              · exact (Or.inl (Or.inl (Or.inl (Or.inr ⟨e2, e3⟩))))
              · exact (Or.inl (Or.inl (Or.inr ⟨e2, e3⟩)))
              · exact (Or.inl (Or.inr ⟨e2, e3⟩))
          · exact (Or.inl (Or.inl (Or.inl (Or.inl (Or.inr (Or.inr (Or.inr (Or.inr (Or.inr (Or.inr (Or.inr h)))))))))))
theorem c_readsPrint (hT : TT T) (hB : RB mi ml mr B n) (hD : RD mi ml B n p) (hN : RNm mi ml N) (hI : NI N t) (hW : WT t) (hP : RP mi T t) (hc : t 0 8 < 5) (hE : hEL post mi ml mr dom T (liK B n (p, N, t))) (hO : hOL post mi ml mr dom B n T (liK B n (p, N, t))) : CT G 9 0 0 yX6_readsPrint cX6_readsPrint 3 (some .boolean) [.ref 2, .ref T] mi ml mr dom post := by
  have hX := hB.1
  have hw := hW.1
  have hge := hT.ge
  have hJ := hI.nj
  have s0 : LZ mr mi ml T B n p N (dm t) t (if 0 < t 0 2 then 1 else 0) mi ml := ⟨FT.rfl' T mi ml, hB, hD, hN, hP.2, dm_U hW, hP.1⟩
  refine enter 1 (by decide) rfl rfl (fun X => ?_)
  refine j_aload_n dX6_readsPrint_0 rfl rfl ?_
  refine gR6_296 (kT0 hT) dX6_readsPrint_1 (xT_tracks hX hT) ?_
  refine j_aload_n dX6_readsPrint_4 rfl rfl ?_
  refine gI6_174 (kT0 hT) dX6_readsPrint_5 ?_
  rw [show mi T 8 = nI (t 0 8) from s0.rd 0 8 (Or.inl ⟨rfl, by decide, fun q => absurd q (by decide)⟩)]
  refine j_aald (C := RX5) (kT8 hT) (by decide) (fun _ => rfl) (inT (lT8 hT) (show t 0 8 < 5 by omega) (by decide)) (mr_nI (by omega) (xT_k hX hT (show t 0 8 < 5 by omega))) dX6_readsPrint_8 (by decide) ?_
  refine j_astore_n (lv2 := [_, _, _]) dX6_readsPrint_9 rfl (by decide) rfl rfl ?_
  refine j_aload_n dX6_readsPrint_10 rfl rfl ?_
  refine cV6_87 (d1 := 3) rfl dX6_readsPrint_11 (by decide) (Nat.le_of_ble_eq_true rfl) ?_
  refine c_step s0.2.1 s0.2.2.1.le s0.2.2.1.2.2.1 (fun m1 l1 f g8 d => ?_)
  have s1 := s0.f2 hT f d
  refine j_aload_n dX6_readsPrint_14 rfl rfl ?_
  refine j_iconst (v := 1) dX6_readsPrint_15 (by decide) ?_
  refine cV6_208 (d1 := 4) rfl dX6_readsPrint_16 (by decide) (Nat.le_of_ble_eq_true rfl) ?_
  refine c_takesName (s := 1) s1.2.1 s1.2.2.1 s1.2.2.2.1 (fun k hk => by have := (hJ k hk).1; omega) (by decide) (fun e he mi1 ml1 f g0 g1 => ?_) (fun q2 he2 m2 l2 f d g2 => ?_)
  · refine j_if_ne (tgt := 24) dX6_readsPrint_19 (by decide) (fun h19 => absurd (by decide) h19) (fun _ => ?_)
    refine j_iconst (v := 0) dX6_readsPrint_22 (by decide) ?_
    refine j_zret rfl (by decide) dX6_readsPrint_23 ?_
    exact hE e (by simp only [liK, he, eb_r, eb_l]) mi1 ml1 (s1.1.tr (f.ft T)) g0 g1
  · have s2 := s1.f2 hT f d
    refine j_if_ne (tgt := 24) dX6_readsPrint_19 (by decide) (fun _ => ?_) (fun h19 => absurd h19 (by decide))
    refine j_aload_n dX6_readsPrint_24 rfl rfl ?_
    refine j_aload_n dX6_readsPrint_25 rfl rfl ?_
    refine gI6_38 rfl dX6_readsPrint_26 ?_
    rw [g2 _ rfl]
    refine pI6_300 (kK hT (show t 0 8 < 5 by omega)) dX6_readsPrint_29 ?_
    have s3 := s2.put hT (r := 14) (i := t 0 8) (x := q2) (a := T + 50 + t 0 8) (s := 0) (by unfold dU; omega) (Nat.add_assoc T 50 (t 0 8)) rfl
    have g3 : up m2 (T + 50 + t 0 8) (0) (nI (q2)) 2 8 = nI (q2) := by rw [up_off _ _ (by omega)]; exact g2 _ rfl 
    generalize up m2 (T + 50 + t 0 8) (0) (nI (q2)) = m3 at s3 g3 ⊢
    refine j_aload_n dX6_readsPrint_32 rfl rfl ?_
    refine j_iconst (v := 2) dX6_readsPrint_33 (by decide) ?_
    refine cV6_248 (d1 := 4) rfl dX6_readsPrint_34 (by decide) (Nat.le_of_ble_eq_true rfl) ?_
    refine c_takesLook (m := 2) s3.2.1 s3.2.2.1 (by decide) (fun e he mi1 ml1 f g0 g1 => ?_) (fun q4 he4 m4 l4 f d g4 => ?_)
    · refine j_if_ne (tgt := 42) dX6_readsPrint_37 (by decide) (fun h37 => absurd (by decide) h37) (fun _ => ?_)
      refine j_iconst (v := 0) dX6_readsPrint_40 (by decide) ?_
      refine j_zret rfl (by decide) dX6_readsPrint_41 ?_
      exact hE e (by simp only [liK, he2, he, eb_r, eb_l]) mi1 ml1 (s3.1.tr (f.ft T)) g0 g1
    · have s4 := s3.f2 hT f d
      refine j_if_ne (tgt := 42) dX6_readsPrint_37 (by decide) (fun _ => ?_) (fun h37 => absurd h37 (by decide))
      refine j_aload_n dX6_readsPrint_42 rfl rfl ?_
      refine j_aload_n dX6_readsPrint_43 rfl rfl ?_
      refine gI6_38 rfl dX6_readsPrint_44 ?_
      rw [g4 _ rfl]
      refine pI6_303 (kK hT (show t 0 8 < 5 by omega)) dX6_readsPrint_47 ?_
      have s5 := s4.put hT (r := 15) (i := t 0 8) (x := q4.2) (a := T + 50 + t 0 8) (s := 1) (by unfold dU; omega) (Nat.add_assoc T 50 (t 0 8)) rfl
      have g5 : up m4 (T + 50 + t 0 8) (1) (nI (q4.2)) 2 8 = nI (q4.2) := by rw [up_off _ _ (by omega)]; exact g4 _ rfl 
      generalize up m4 (T + 50 + t 0 8) (1) (nI (q4.2)) = m5 at s5 g5 ⊢
      refine j_aload_n dX6_readsPrint_50 rfl rfl ?_
      refine j_ldcS6_306 dX6_readsPrint_51 ?_
      refine cV6_182 (d1 := 8) rfl dX6_readsPrint_54 (by decide) (Nat.le_of_ble_eq_true rfl) ?_
      refine c_takesWord (i := 23) s5.2.1 s5.2.2.1 (by decide) (fun e he mi1 ml1 f g0 g1 => ?_) (fun q6 he6 m6 l6 f d g6 => ?_)
      · refine j_if_eq (tgt := 70) dX6_readsPrint_57 (by decide) (fun _ => ?_) (fun h57 => absurd (by decide) h57)
        refine j_iconst (v := 0) dX6_readsPrint_70 (by decide) ?_
        refine j_zret rfl (by decide) dX6_readsPrint_71 ?_
        exact hE e (by simp only [liK, he2, he4, he, eb_r, eb_l]) mi1 ml1 (s5.1.tr (f.ft T)) g0 g1
      · have s6 := s5.f2 hT f d
        refine j_if_eq (tgt := 70) dX6_readsPrint_57 (by decide) (fun h57 => absurd h57 (by decide)) (fun _ => ?_)
        refine j_aload_n dX6_readsPrint_60 rfl rfl ?_
        refine j_iconst (v := 0) dX6_readsPrint_61 (by decide) ?_
        refine j_bipush (v := 20) dX6_readsPrint_62 (by decide) ?_
        refine cV6_186 (d1 := 4) rfl dX6_readsPrint_64 (by decide) (Nat.le_of_ble_eq_true rfl) ?_
        refine c_takesWhole (lo := 0) (hi := 20) s6.2.1 s6.2.2.1 (by decide) (by decide) (fun e he mi1 ml1 f g0 g1 => ?_) (fun q7 he7 m7 l7 f d g7 => ?_)
        · refine j_if_ne (tgt := 72) dX6_readsPrint_67 (by decide) (fun h67 => absurd (by decide) h67) (fun _ => ?_)
          refine j_iconst (v := 0) dX6_readsPrint_70 (by decide) ?_
          refine j_zret rfl (by decide) dX6_readsPrint_71 ?_
          exact hE e (by simp only [liK, he2, he4, he6, he, eb_r, eb_l]) mi1 ml1 (s6.1.tr (f.ft T)) g0 g1
        · have s7 := s6.f2 hT f d
          refine j_if_ne (tgt := 72) dX6_readsPrint_67 (by decide) (fun _ => ?_) (fun h67 => absurd h67 (by decide))
          refine j_aload_n dX6_readsPrint_72 rfl rfl ?_
          refine j_aload_n dX6_readsPrint_73 rfl rfl ?_
          refine gI6_38 rfl dX6_readsPrint_74 ?_
          rw [g7 _ rfl]
          refine pI6_308 (kK hT (show t 0 8 < 5 by omega)) dX6_readsPrint_77 ?_
          have s8 := s7.put hT (r := 16) (i := t 0 8) (x := q7.2) (a := T + 50 + t 0 8) (s := 2) (by unfold dU; omega) (Nat.add_assoc T 50 (t 0 8)) rfl
          have g8 : up m7 (T + 50 + t 0 8) (2) (nI (q7.2)) 2 8 = nI (q7.2) := by rw [up_off _ _ (by omega)]; exact g7 _ rfl 
          generalize up m7 (T + 50 + t 0 8) (2) (nI (q7.2)) = m8 at s8 g8 ⊢
          refine j_aload_n dX6_readsPrint_80 rfl rfl ?_
          refine j_dup dX6_readsPrint_81 rfl ?_
          refine gI6_174 (kT0 hT) dX6_readsPrint_82 ?_
          rw [show m8 T 8 = nI (t 0 8) from s8.rd 0 8 (Or.inl (Or.inl (Or.inl (Or.inl ⟨rfl, by decide, fun q => absurd q (by decide)⟩))))]
          refine j_iconst (v := 1) dX6_readsPrint_85 (by decide) ?_
          refine j_iadd dX6_readsPrint_86 ?_
          rw [nI_1]
          refine pI6_174 (kT0 hT) dX6_readsPrint_87 ?_
          have s9 := s8.put hT (r := 0) (i := 8) (x := t 0 8 + 1) (a := T) (s := 8) (by unfold dU; omega) rfl rfl
          have g9 : up m8 (T) (8) (nI (t 0 8 + 1)) 2 8 = nI (q7.2) := by rw [up_off _ _ (by omega)]; exact g8 
          generalize up m8 (T) (8) (nI (t 0 8 + 1)) = m9 at s9 g9 ⊢
          refine j_iconst (v := 1) dX6_readsPrint_90 (by decide) ?_
          refine j_zret rfl (by decide) dX6_readsPrint_91 ?_
          refine hO (q7.1, N, ut (ut (ut (ut t 14 (t 0 8) q2) 15 (t 0 8) q4.2) 16 (t 0 8) q7.2) 0 8 (t 0 8 + 1)) (by simp only [liK, he2, he4, he6, he7, eb_r, eb_l]) m9 l7 s9.1 s9.2.2.1 s9.2.2.2.1 ⟨s9.2.2.2.2.2.2, s9.2.2.2.2.1.mono (fun r i h => ?_)⟩
          have h : (r = 0 ∧ i < 9 ∧ (i < 3 → 0 < t 0 2)) ∨ (r = 1 ∧ i < t 0 3) ∨ (r = 2 ∧ i < 36) ∨ (4 ≤ r ∧ r ≤ 6 ∧ i < t 0 5) ∨ (r = 7 ∧ i < 5 * (t 0 5)) ∨ (8 ≤ r ∧ r ≤ 10 ∧ i < t 0 6) ∨ (11 ≤ r ∧ r ≤ 13 ∧ i < t 0 7) ∨ (14 ≤ r ∧ r ≤ 16 ∧ i < t 0 8 + 1) := h
          rcases h with h | h | h | h | h | h | h | h
          · exact (Or.inl (Or.inl (Or.inl (Or.inl (Or.inl h)))))
          · exact (Or.inl (Or.inl (Or.inl (Or.inl (Or.inr (Or.inl h))))))
          · exact (Or.inl (Or.inl (Or.inl (Or.inl (Or.inr (Or.inr (Or.inl h)))))))
          · exact (Or.inl (Or.inl (Or.inl (Or.inl (Or.inr (Or.inr (Or.inr (Or.inl h))))))))
          · exact (Or.inl (Or.inl (Or.inl (Or.inl (Or.inr (Or.inr (Or.inr (Or.inr (Or.inl h)))))))))
          · exact (Or.inl (Or.inl (Or.inl (Or.inl (Or.inr (Or.inr (Or.inr (Or.inr (Or.inr (Or.inl h))))))))))
          · exact (Or.inl (Or.inl (Or.inl (Or.inl (Or.inr (Or.inr (Or.inr (Or.inr (Or.inr (Or.inr (Or.inl h)))))))))))
          · by_cases e : i < t 0 8
            · exact (Or.inl (Or.inl (Or.inl (Or.inl (Or.inr (Or.inr (Or.inr (Or.inr (Or.inr (Or.inr (Or.inr ⟨h.1, h.2.1, e⟩)))))))))))
            · have e2 : r = 14 ∨ r = 15 ∨ r = 16 := by omega
              have e3 : i = t 0 8 := by omega
              rcases e2 with e2 | e2 | e2
              · exact (Or.inl (Or.inl (Or.inl (Or.inr ⟨e2, e3⟩))))
              · exact (Or.inl (Or.inl (Or.inr ⟨e2, e3⟩)))
              · exact (Or.inl (Or.inr ⟨e2, e3⟩))
theorem c_readsGood (hT : TT T) (hB : RB mi ml mr B n) (hD : RD mi ml B n p) (hN : RNm mi ml N) (hI : NI N t) (hW : WT t) (hP : RP mi T t) (hc : t 0 6 < 5) (hE : hEL post mi ml mr dom T (liG B n (p, N, t))) (hO : hOL post mi ml mr dom B n T (liG B n (p, N, t))) : CT G 9 0 0 yX6_readsGood cX6_readsGood 3 (some .boolean) [.ref 2, .ref T] mi ml mr dom post := by
  have hX := hB.1
  have hw := hW.1
  have hge := hT.ge
  have hJ := hI.nj
  have s0 : LZ mr mi ml T B n p N (dm t) t (if 0 < t 0 2 then 1 else 0) mi ml := ⟨FT.rfl' T mi ml, hB, hD, hN, hP.2, dm_U hW, hP.1⟩
  refine enter 1 (by decide) rfl rfl (fun X => ?_)
  refine j_aload_n dX6_readsGood_0 rfl rfl ?_
  refine gR6_260 (kT0 hT) dX6_readsGood_1 (xT_wares hX hT) ?_
  refine j_aload_n dX6_readsGood_4 rfl rfl ?_
  refine gI6_162 (kT0 hT) dX6_readsGood_5 ?_
  rw [show mi T 6 = nI (t 0 6) from s0.rd 0 6 (Or.inl ⟨rfl, by decide, fun q => absurd q (by decide)⟩)]
  refine j_aald (C := RX1) (kT6 hT) (by decide) (fun _ => rfl) (inT (lT6 hT) (show t 0 6 < 5 by omega) (by decide)) (mr_nI (by omega) (xT_g hX hT (show t 0 6 < 5 by omega))) dX6_readsGood_8 (by decide) ?_
  refine j_astore_n (lv2 := [_, _, _]) dX6_readsGood_9 rfl (by decide) rfl rfl ?_
  refine j_aload_n dX6_readsGood_10 rfl rfl ?_
  refine cV6_87 (d1 := 3) rfl dX6_readsGood_11 (by decide) (Nat.le_of_ble_eq_true rfl) ?_
  refine c_step s0.2.1 s0.2.2.1.le s0.2.2.1.2.2.1 (fun m1 l1 f g8 d => ?_)
  have s1 := s0.f2 hT f d
  refine j_aload_n dX6_readsGood_14 rfl rfl ?_
  refine j_iconst (v := 4) dX6_readsGood_15 (by decide) ?_
  refine j_aload_n dX6_readsGood_16 rfl rfl ?_
  refine gI6_162 (kT0 hT) dX6_readsGood_17 ?_
  rw [show m1 T 6 = nI (t 0 6) from s1.rd 0 6 (Or.inl ⟨rfl, by decide, fun q => absurd q (by decide)⟩)]
  refine cV6_200 (d1 := 4) rfl dX6_readsGood_20 (by decide) (Nat.le_of_ble_eq_true rfl) ?_
  refine c_takesNewName (s := 4) (k := t 0 6) s1.2.1 s1.2.2.1 s1.2.2.2.1 (fun e he mi1 ml1 f g0 g1 => ?_) (fun q2 he2 m2 l2 f d nm => ?_)
  · refine j_if_eq (tgt := 47) dX6_readsGood_23 (by decide) (fun _ => ?_) (fun h23 => absurd (by decide) h23)
    refine j_iconst (v := 0) dX6_readsGood_47 (by decide) ?_
    refine j_zret rfl (by decide) dX6_readsGood_48 ?_
    exact hE e (by simp only [liG, he, eb_r, eb_l]) mi1 ml1 (s1.1.tr (f.ft T)) g0 g1
  · have s2 := s1.f5 hT f d nm
    have hJ2 : NJ q2.2 (t 0 3) (t 0 5 + 1) := by rw [(nN_r he2).1]; exact hJ.ad (by decide) (fun q => absurd q (by decide)) (fun _ => by omega) (by omega) (by omega)
    refine j_if_eq (tgt := 47) dX6_readsGood_23 (by decide) (fun h23 => absurd h23 (by decide)) (fun _ => ?_)
    refine j_aload_n dX6_readsGood_26 rfl rfl ?_
    refine j_ldcS6_264 dX6_readsGood_27 ?_
    refine cV6_182 (d1 := 8) rfl dX6_readsGood_30 (by decide) (Nat.le_of_ble_eq_true rfl) ?_
    refine c_takesWord (i := 19) s2.2.1 s2.2.2.1 (by decide) (fun e he mi1 ml1 f g0 g1 => ?_) (fun q3 he3 m3 l3 f d g3 => ?_)
    · refine j_if_eq (tgt := 47) dX6_readsGood_33 (by decide) (fun _ => ?_) (fun h33 => absurd (by decide) h33)
      refine j_iconst (v := 0) dX6_readsGood_47 (by decide) ?_
      refine j_zret rfl (by decide) dX6_readsGood_48 ?_
      exact hE e (by simp only [liG, he2, he, eb_r, eb_l]) mi1 ml1 (s2.1.tr (f.ft T)) g0 g1
    · have s3 := s2.f2 hT f d
      refine j_if_eq (tgt := 47) dX6_readsGood_33 (by decide) (fun h33 => absurd h33 (by decide)) (fun _ => ?_)
      refine j_aload_n dX6_readsGood_36 rfl rfl ?_
      refine j_iconst (v := 1) dX6_readsGood_37 (by decide) ?_
      refine j_sipush (v := 150) dX6_readsGood_38 (by decide) ?_
      refine cV6_186 (d1 := 4) rfl dX6_readsGood_41 (by decide) (Nat.le_of_ble_eq_true rfl) ?_
      refine c_takesWhole (lo := 1) (hi := 150) s3.2.1 s3.2.2.1 (by decide) (by decide) (fun e he mi1 ml1 f g0 g1 => ?_) (fun q4 he4 m4 l4 f d g4 => ?_)
      · refine j_if_ne (tgt := 49) dX6_readsGood_44 (by decide) (fun h44 => absurd (by decide) h44) (fun _ => ?_)
        refine j_iconst (v := 0) dX6_readsGood_47 (by decide) ?_
        refine j_zret rfl (by decide) dX6_readsGood_48 ?_
        exact hE e (by simp only [liG, he2, he3, he, eb_r, eb_l]) mi1 ml1 (s3.1.tr (f.ft T)) g0 g1
      · have s4 := s3.f2 hT f d
        refine j_if_ne (tgt := 49) dX6_readsGood_44 (by decide) (fun _ => ?_) (fun h44 => absurd h44 (by decide))
        refine j_aload_n dX6_readsGood_49 rfl rfl ?_
        refine j_aload_n dX6_readsGood_50 rfl rfl ?_
        refine gI6_38 rfl dX6_readsGood_51 ?_
        rw [g4 _ rfl]
        refine pI6_266 (kG hT (show t 0 6 < 5 by omega)) dX6_readsGood_54 ?_
        have s5 := s4.put hT (r := 8) (i := t 0 6) (x := q4.2) (a := T + 30 + t 0 6) (s := 0) (by unfold dU; omega) (Nat.add_assoc T 30 (t 0 6)) rfl
        have g5 : up m4 (T + 30 + t 0 6) (0) (nI (q4.2)) 2 8 = nI (q4.2) := by rw [up_off _ _ (by omega)]; exact g4 _ rfl 
        generalize up m4 (T + 30 + t 0 6) (0) (nI (q4.2)) = m5 at s5 g5 ⊢
        refine j_aload_n dX6_readsGood_57 rfl rfl ?_
        refine j_ldcS6_271 dX6_readsGood_58 ?_
        refine cV6_182 (d1 := 8) rfl dX6_readsGood_61 (by decide) (Nat.le_of_ble_eq_true rfl) ?_
        refine c_takesWord (i := 20) s5.2.1 s5.2.2.1 (by decide) (fun e he mi1 ml1 f g0 g1 => ?_) (fun q6 he6 m6 l6 f d g6 => ?_)
        · refine j_if_eq (tgt := 75) dX6_readsGood_64 (by decide) (fun _ => ?_) (fun h64 => absurd (by decide) h64)
          refine j_iconst (v := 0) dX6_readsGood_75 (by decide) ?_
          refine j_zret rfl (by decide) dX6_readsGood_76 ?_
          exact hE e (by simp only [liG, he2, he3, he4, he, eb_r, eb_l]) mi1 ml1 (s5.1.tr (f.ft T)) g0 g1
        · have s6 := s5.f2 hT f d
          refine j_if_eq (tgt := 75) dX6_readsGood_64 (by decide) (fun h64 => absurd h64 (by decide)) (fun _ => ?_)
          refine j_aload_n dX6_readsGood_67 rfl rfl ?_
          refine j_iconst (v := 1) dX6_readsGood_68 (by decide) ?_
          refine cV6_208 (d1 := 4) rfl dX6_readsGood_69 (by decide) (Nat.le_of_ble_eq_true rfl) ?_
          refine c_takesName (s := 1) s6.2.1 s6.2.2.1 s6.2.2.2.1 (fun k hk => by have := (hJ2 k hk).1; omega) (by decide) (fun e he mi1 ml1 f g0 g1 => ?_) (fun q7 he7 m7 l7 f d g7 => ?_)
          · refine j_if_ne (tgt := 77) dX6_readsGood_72 (by decide) (fun h72 => absurd (by decide) h72) (fun _ => ?_)
            refine j_iconst (v := 0) dX6_readsGood_75 (by decide) ?_
            refine j_zret rfl (by decide) dX6_readsGood_76 ?_
            exact hE e (by simp only [liG, he2, he3, he4, he6, he, eb_r, eb_l]) mi1 ml1 (s6.1.tr (f.ft T)) g0 g1
          · have s7 := s6.f2 hT f d
            refine j_if_ne (tgt := 77) dX6_readsGood_72 (by decide) (fun _ => ?_) (fun h72 => absurd h72 (by decide))
            refine j_aload_n dX6_readsGood_77 rfl rfl ?_
            refine j_aload_n dX6_readsGood_78 rfl rfl ?_
            refine gI6_38 rfl dX6_readsGood_79 ?_
            rw [g7 _ rfl]
            refine pI6_272 (kG hT (show t 0 6 < 5 by omega)) dX6_readsGood_82 ?_
            have s8 := s7.put hT (r := 9) (i := t 0 6) (x := q7) (a := T + 30 + t 0 6) (s := 1) (by unfold dU; omega) (Nat.add_assoc T 30 (t 0 6)) rfl
            have g8 : up m7 (T + 30 + t 0 6) (1) (nI (q7)) 2 8 = nI (q7) := by rw [up_off _ _ (by omega)]; exact g7 _ rfl 
            generalize up m7 (T + 30 + t 0 6) (1) (nI (q7)) = m8 at s8 g8 ⊢
            refine j_aload_n dX6_readsGood_85 rfl rfl ?_
            refine j_ldcS6_275 dX6_readsGood_86 ?_
            refine cV6_182 (d1 := 8) rfl dX6_readsGood_89 (by decide) (Nat.le_of_ble_eq_true rfl) ?_
            refine c_takesWord (i := 21) s8.2.1 s8.2.2.1 (by decide) (fun e he mi1 ml1 f g0 g1 => ?_) (fun q9 he9 m9 l9 f d g9 => ?_)
            · refine j_if_eq (tgt := 103) dX6_readsGood_92 (by decide) (fun _ => ?_) (fun h92 => absurd (by decide) h92)
              refine j_iconst (v := 0) dX6_readsGood_103 (by decide) ?_
              refine j_zret rfl (by decide) dX6_readsGood_104 ?_
              exact hE e (by simp only [liG, he2, he3, he4, he6, he7, he, eb_r, eb_l]) mi1 ml1 (s8.1.tr (f.ft T)) g0 g1
            · have s9 := s8.f2 hT f d
              refine j_if_eq (tgt := 103) dX6_readsGood_92 (by decide) (fun h92 => absurd h92 (by decide)) (fun _ => ?_)
              refine j_aload_n dX6_readsGood_95 rfl rfl ?_
              refine j_iconst (v := 1) dX6_readsGood_96 (by decide) ?_
              refine cV6_211 (d1 := 3) rfl dX6_readsGood_97 (by decide) (Nat.le_of_ble_eq_true rfl) ?_
              refine c_findsName (s := 1) s9.2.1 s9.2.2.1 s9.2.2.2.1 (fun k hk => by have := (hJ2 k hk).1; omega) (by decide) (fun e he mi1 ml1 f g0 g1 => ?_) (fun q10 he10 m10 l10 f d g10 => ?_)
              · refine j_if_ne (tgt := 105) dX6_readsGood_100 (by decide) (fun h100 => absurd (by decide) h100) (fun _ => ?_)
                refine j_iconst (v := 0) dX6_readsGood_103 (by decide) ?_
                refine j_zret rfl (by decide) dX6_readsGood_104 ?_
                exact hE e (by simp only [liG, he2, he3, he4, he6, he7, he9, he, eb_r, eb_l]) mi1 ml1 (s9.1.tr (f.ft T)) g0 g1
              · have s10 := s9.f2 hT f d
                refine j_if_ne (tgt := 105) dX6_readsGood_100 (by decide) (fun _ => ?_) (fun h100 => absurd h100 (by decide))
                refine j_aload_n dX6_readsGood_105 rfl rfl ?_
                refine gI6_38 rfl dX6_readsGood_106 ?_
                rw [g10 _ rfl]
                refine j_aload_n dX6_readsGood_109 rfl rfl ?_
                refine gI6_272 (kG hT (show t 0 6 < 5 by omega)) dX6_readsGood_110 ?_
                rw [show m10 (T + 30 + t 0 6) 1 = nI (q7) from by rw [Nat.add_assoc]; exact (s10.rd 9 (t 0 6) (Or.inr ⟨rfl, rfl⟩)).trans (congrArg nI (ut_at _ _ _ _))]
                have bg := (fN_lt hJ2 he10).1 rfl
                have bh := (fN_lt hJ2 he7).1 rfl
                refine j_icmp_ne (tgt := 122) dX6_readsGood_113 (by decide) (fun h113 => ?_) (fun h113 => ?_)
                · have e113 : ¬ q10 = q7 := fun q => h113 (by rw [q])
                  refine j_aload_n dX6_readsGood_122 rfl rfl ?_
                  refine j_aload_n dX6_readsGood_123 rfl rfl ?_
                  refine gI6_38 rfl dX6_readsGood_124 ?_
                  rw [g10 _ rfl]
                  refine pI6_277 (kG hT (show t 0 6 < 5 by omega)) dX6_readsGood_127 ?_
                  have s11 := s10.put hT (r := 10) (i := t 0 6) (x := q10) (a := T + 30 + t 0 6) (s := 2) (by unfold dU; omega) (Nat.add_assoc T 30 (t 0 6)) rfl
                  have g11 : up m10 (T + 30 + t 0 6) (2) (nI (q10)) 2 8 = nI (q10) := by rw [up_off _ _ (by omega)]; exact g10 _ rfl 
                  generalize up m10 (T + 30 + t 0 6) (2) (nI (q10)) = m11 at s11 g11 ⊢
                  refine j_aload_n dX6_readsGood_130 rfl rfl ?_
                  refine cV6_87 (d1 := 3) rfl dX6_readsGood_131 (by decide) (Nat.le_of_ble_eq_true rfl) ?_
                  refine c_step s11.2.1 s11.2.2.1.le s11.2.2.1.2.2.1 (fun m12 l12 f g8 d => ?_)
                  have s12 := s11.f2 hT f d
                  have g12 := g8.trans (g11)
                  refine j_aload_n dX6_readsGood_134 rfl rfl ?_
                  refine j_dup dX6_readsGood_135 rfl ?_
                  refine gI6_162 (kT0 hT) dX6_readsGood_136 ?_
                  rw [show m12 T 6 = nI (t 0 6) from s12.rd 0 6 (Or.inl (Or.inl (Or.inl (Or.inl ⟨rfl, by decide, fun q => absurd q (by decide)⟩))))]
                  refine j_iconst (v := 1) dX6_readsGood_139 (by decide) ?_
                  refine j_iadd dX6_readsGood_140 ?_
                  rw [nI_1]
                  refine pI6_162 (kT0 hT) dX6_readsGood_141 ?_
                  have s13 := s12.put hT (r := 0) (i := 6) (x := t 0 6 + 1) (a := T) (s := 6) (by unfold dU; omega) rfl rfl
                  have g13 : up m12 (T) (6) (nI (t 0 6 + 1)) 2 8 = nI (q10) := by rw [up_off _ _ (by omega)]; exact g12 
                  generalize up m12 (T) (6) (nI (t 0 6 + 1)) = m13 at s13 g13 ⊢
                  refine j_iconst (v := 1) dX6_readsGood_144 (by decide) ?_
                  refine j_zret rfl (by decide) dX6_readsGood_145 ?_
                  refine hO ((tE B n q9), q2.2, ut (ut (ut (ut t 8 (t 0 6) q4.2) 9 (t 0 6) q7) 10 (t 0 6) q10) 0 6 (t 0 6 + 1)) (by simp only [liG, he2, he3, he4, he6, he7, he9, he10, eb_r, eb_l, if_neg e113]) m13 l12 s13.1 s13.2.2.1 s13.2.2.2.1 ⟨s13.2.2.2.2.2.2, s13.2.2.2.2.1.mono (fun r i h => ?_)⟩
                  have h : (r = 0 ∧ i < 9 ∧ (i < 3 → 0 < t 0 2)) ∨ (r = 1 ∧ i < t 0 3) ∨ (r = 2 ∧ i < 36) ∨ (4 ≤ r ∧ r ≤ 6 ∧ i < t 0 5) ∨ (r = 7 ∧ i < 5 * (t 0 5)) ∨ (8 ≤ r ∧ r ≤ 10 ∧ i < t 0 6 + 1) ∨ (11 ≤ r ∧ r ≤ 13 ∧ i < t 0 7) ∨ (14 ≤ r ∧ r ≤ 16 ∧ i < t 0 8) := h
                  rcases h with h | h | h | h | h | h | h | h
                  · exact (Or.inl (Or.inl (Or.inl (Or.inl (Or.inl h)))))
                  · exact (Or.inl (Or.inl (Or.inl (Or.inl (Or.inr (Or.inl h))))))
                  · exact (Or.inl (Or.inl (Or.inl (Or.inl (Or.inr (Or.inr (Or.inl h)))))))
                  · exact (Or.inl (Or.inl (Or.inl (Or.inl (Or.inr (Or.inr (Or.inr (Or.inl h))))))))
                  · exact (Or.inl (Or.inl (Or.inl (Or.inl (Or.inr (Or.inr (Or.inr (Or.inr (Or.inl h)))))))))
                  · by_cases e : i < t 0 6
                    · exact (Or.inl (Or.inl (Or.inl (Or.inl (Or.inr (Or.inr (Or.inr (Or.inr (Or.inr (Or.inl ⟨h.1, h.2.1, e⟩))))))))))
                    · have e2 : r = 8 ∨ r = 9 ∨ r = 10 := by omega
                      have e3 : i = t 0 6 := by omega
                      rcases e2 with e2 | e2 | e2
                      · exact (Or.inl (Or.inl (Or.inl (Or.inr ⟨e2, e3⟩))))
                      · exact (Or.inl (Or.inl (Or.inr ⟨e2, e3⟩)))
                      · exact (Or.inl (Or.inr ⟨e2, e3⟩))
                  · exact (Or.inl (Or.inl (Or.inl (Or.inl (Or.inr (Or.inr (Or.inr (Or.inr (Or.inr (Or.inr (Or.inl h)))))))))))
                  · exact (Or.inl (Or.inl (Or.inl (Or.inl (Or.inr (Or.inr (Or.inr (Or.inr (Or.inr (Or.inr (Or.inr h)))))))))))
                · have e113 : q10 = q7 := by rw [nI_eq (by omega) (by omega)] at h113; exact h113
                  refine j_aload_n dX6_readsGood_116 rfl rfl ?_
                  refine j_iconst (v := 3) dX6_readsGood_117 (by decide) ?_
                  refine cV6_97 (d1 := 1) rfl dX6_readsGood_118 (by decide) (Nat.le_of_ble_eq_true rfl) ?_
                  refine c_fails (x := 3) s10.2.2.1 (fun mi1 ml1 f g0 g1 => ?_)
                  refine j_zret rfl (by decide) dX6_readsGood_121 ?_
                  exact hE (3, tA B n q9) (by simp only [liG, he2, he3, he4, he6, he7, he9, he10, eb_r, eb_l, if_pos e113]) mi1 ml1 (s10.1.tr (f.ft T)) g0 g1
theorem c_readsPerson (hT : TT T) (hB : RB mi ml mr B n) (hD : RD mi ml B n p) (hN : RNm mi ml N) (hI : NI N t) (hW : WT t) (hP : RP mi T t) (hc : t 0 5 < 6) (hE : hEL post mi ml mr dom T (liP B n (p, N, t))) (hO : hOL post mi ml mr dom B n T (liP B n (p, N, t))) : CT G 9 0 0 yX6_readsPerson cX6_readsPerson 3 (some .boolean) [.ref 2, .ref T] mi ml mr dom post := by
  have hX := hB.1
  have hw := hW.1
  have hge := hT.ge
  have hJ := hI.nj
  have s0 : LZ mr mi ml T B n p N (dm t) t (if 0 < t 0 2 then 1 else 0) mi ml := ⟨FT.rfl' T mi ml, hB, hD, hN, hP.2, dm_U hW, hP.1⟩
  refine enter 1 (by decide) rfl rfl (fun X => ?_)
  refine j_aload_n dX6_readsPerson_0 rfl rfl ?_
  refine gR6_223 (kT0 hT) dX6_readsPerson_1 (xT_persons hX hT) ?_
  refine j_aload_n dX6_readsPerson_4 rfl rfl ?_
  refine gI6_104 (kT0 hT) dX6_readsPerson_5 ?_
  rw [show mi T 5 = nI (t 0 5) from s0.rd 0 5 (Or.inl ⟨rfl, by decide, fun q => absurd q (by decide)⟩)]
  refine j_aald (C := RX3) (kT5 hT) (by decide) (fun _ => rfl) (inT (lT5 hT) (show t 0 5 < 6 by omega) (by decide)) (mr_nI (by omega) (xT_p hX hT (show t 0 5 < 6 by omega))) dX6_readsPerson_8 (by decide) ?_
  refine j_astore_n (lv2 := [_, _, _]) dX6_readsPerson_9 rfl (by decide) rfl rfl ?_
  refine j_aload_n dX6_readsPerson_10 rfl rfl ?_
  refine cV6_87 (d1 := 3) rfl dX6_readsPerson_11 (by decide) (Nat.le_of_ble_eq_true rfl) ?_
  refine c_step s0.2.1 s0.2.2.1.le s0.2.2.1.2.2.1 (fun m1 l1 f g8 d => ?_)
  have s1 := s0.f2 hT f d
  refine j_aload_n dX6_readsPerson_14 rfl rfl ?_
  refine j_iconst (v := 3) dX6_readsPerson_15 (by decide) ?_
  refine j_aload_n dX6_readsPerson_16 rfl rfl ?_
  refine gI6_104 (kT0 hT) dX6_readsPerson_17 ?_
  rw [show m1 T 5 = nI (t 0 5) from s1.rd 0 5 (Or.inl ⟨rfl, by decide, fun q => absurd q (by decide)⟩)]
  refine cV6_200 (d1 := 4) rfl dX6_readsPerson_20 (by decide) (Nat.le_of_ble_eq_true rfl) ?_
  refine c_takesNewName (s := 3) (k := t 0 5) s1.2.1 s1.2.2.1 s1.2.2.2.1 (fun e he mi1 ml1 f g0 g1 => ?_) (fun q2 he2 m2 l2 f d nm => ?_)
  · refine j_if_eq (tgt := 33) dX6_readsPerson_23 (by decide) (fun _ => ?_) (fun h23 => absurd (by decide) h23)
    refine j_iconst (v := 0) dX6_readsPerson_33 (by decide) ?_
    refine j_zret rfl (by decide) dX6_readsPerson_34 ?_
    exact hE e (by simp only [liP, he, eb_r, eb_l]) mi1 ml1 (s1.1.tr (f.ft T)) g0 g1
  · have s2 := s1.f5 hT f d nm
    have hJ2 : NJ q2.2 (t 0 3) (t 0 5 + 1) := by rw [(nN_r he2).1]; exact hJ.ad (by decide) (fun q => absurd q (by decide)) (fun _ => by omega) (by omega) (by omega)
    refine j_if_eq (tgt := 33) dX6_readsPerson_23 (by decide) (fun h23 => absurd h23 (by decide)) (fun _ => ?_)
    refine j_aload_n dX6_readsPerson_26 rfl rfl ?_
    refine cV6_227 (d1 := 8) rfl dX6_readsPerson_27 (by decide) (Nat.le_of_ble_eq_true rfl) ?_
    refine c_takesKind s2.2.1 s2.2.2.1 (fun e he mi1 ml1 f g0 g1 => ?_) (fun q3 he3 m3 l3 f d g3 => ?_)
    · refine j_if_ne (tgt := 35) dX6_readsPerson_30 (by decide) (fun h30 => absurd (by decide) h30) (fun _ => ?_)
      refine j_iconst (v := 0) dX6_readsPerson_33 (by decide) ?_
      refine j_zret rfl (by decide) dX6_readsPerson_34 ?_
      exact hE e (by simp only [liP, he2, he, eb_r, eb_l]) mi1 ml1 (s2.1.tr (f.ft T)) g0 g1
    · have s3 := s2.f2 hT f d
      refine j_if_ne (tgt := 35) dX6_readsPerson_30 (by decide) (fun _ => ?_) (fun h30 => absurd h30 (by decide))
      refine j_aload_n dX6_readsPerson_35 rfl rfl ?_
      refine j_aload_n dX6_readsPerson_36 rfl rfl ?_
      refine gI6_38 rfl dX6_readsPerson_37 ?_
      rw [g3 _ rfl]
      refine pI6_231 (kP hT (show t 0 5 < 6 by omega)) dX6_readsPerson_40 ?_
      have s4 := s3.put hT (r := 4) (i := t 0 5) (x := q3.2) (a := T + 10 + t 0 5) (s := 0) (by unfold dU; omega) (Nat.add_assoc T 10 (t 0 5)) rfl
      have g4 : up m3 (T + 10 + t 0 5) (0) (nI (q3.2)) 2 8 = nI (q3.2) := by rw [up_off _ _ (by omega)]; exact g3 _ rfl 
      generalize up m3 (T + 10 + t 0 5) (0) (nI (q3.2)) = m4 at s4 g4 ⊢
      refine j_aload_n dX6_readsPerson_43 rfl rfl ?_
      refine j_ldcS6_236 dX6_readsPerson_44 ?_
      refine cV6_182 (d1 := 8) rfl dX6_readsPerson_46 (by decide) (Nat.le_of_ble_eq_true rfl) ?_
      refine c_takesWord (i := 15) s4.2.1 s4.2.2.1 (by decide) (fun e he mi1 ml1 f g0 g1 => ?_) (fun q5 he5 m5 l5 f d g5 => ?_)
      · refine j_if_eq (tgt := 60) dX6_readsPerson_49 (by decide) (fun _ => ?_) (fun h49 => absurd (by decide) h49)
        refine j_iconst (v := 0) dX6_readsPerson_60 (by decide) ?_
        refine j_zret rfl (by decide) dX6_readsPerson_61 ?_
        exact hE e (by simp only [liP, he2, he3, he, eb_r, eb_l]) mi1 ml1 (s4.1.tr (f.ft T)) g0 g1
      · have s5 := s4.f2 hT f d
        refine j_if_eq (tgt := 60) dX6_readsPerson_49 (by decide) (fun h49 => absurd h49 (by decide)) (fun _ => ?_)
        refine j_aload_n dX6_readsPerson_52 rfl rfl ?_
        refine j_iconst (v := 1) dX6_readsPerson_53 (by decide) ?_
        refine cV6_208 (d1 := 4) rfl dX6_readsPerson_54 (by decide) (Nat.le_of_ble_eq_true rfl) ?_
        refine c_takesName (s := 1) s5.2.1 s5.2.2.1 s5.2.2.2.1 (fun k hk => by have := (hJ2 k hk).1; omega) (by decide) (fun e he mi1 ml1 f g0 g1 => ?_) (fun q6 he6 m6 l6 f d g6 => ?_)
        · refine j_if_ne (tgt := 62) dX6_readsPerson_57 (by decide) (fun h57 => absurd (by decide) h57) (fun _ => ?_)
          refine j_iconst (v := 0) dX6_readsPerson_60 (by decide) ?_
          refine j_zret rfl (by decide) dX6_readsPerson_61 ?_
          exact hE e (by simp only [liP, he2, he3, he5, he, eb_r, eb_l]) mi1 ml1 (s5.1.tr (f.ft T)) g0 g1
        · have s6 := s5.f2 hT f d
          refine j_if_ne (tgt := 62) dX6_readsPerson_57 (by decide) (fun _ => ?_) (fun h57 => absurd h57 (by decide))
          refine j_aload_n dX6_readsPerson_62 rfl rfl ?_
          refine j_aload_n dX6_readsPerson_63 rfl rfl ?_
          refine gI6_38 rfl dX6_readsPerson_64 ?_
          rw [g6 _ rfl]
          refine pI6_238 (kP hT (show t 0 5 < 6 by omega)) dX6_readsPerson_67 ?_
          have s7 := s6.put hT (r := 5) (i := t 0 5) (x := q6) (a := T + 10 + t 0 5) (s := 1) (by unfold dU; omega) (Nat.add_assoc T 10 (t 0 5)) rfl
          have g7 : up m6 (T + 10 + t 0 5) (1) (nI (q6)) 2 8 = nI (q6) := by rw [up_off _ _ (by omega)]; exact g6 _ rfl 
          generalize up m6 (T + 10 + t 0 5) (1) (nI (q6)) = m7 at s7 g7 ⊢
          refine j_aload_n dX6_readsPerson_70 rfl rfl ?_
          refine j_ldcS6_241 dX6_readsPerson_71 ?_
          refine cV6_182 (d1 := 8) rfl dX6_readsPerson_73 (by decide) (Nat.le_of_ble_eq_true rfl) ?_
          refine c_takesWord (i := 16) s7.2.1 s7.2.2.1 (by decide) (fun e he mi1 ml1 f g0 g1 => ?_) (fun q8 he8 m8 l8 f d g8 => ?_)
          · refine j_if_eq (tgt := 90) dX6_readsPerson_76 (by decide) (fun _ => ?_) (fun h76 => absurd (by decide) h76)
            refine j_iconst (v := 0) dX6_readsPerson_90 (by decide) ?_
            refine j_zret rfl (by decide) dX6_readsPerson_91 ?_
            exact hE e (by simp only [liP, he2, he3, he5, he6, he, eb_r, eb_l]) mi1 ml1 (s7.1.tr (f.ft T)) g0 g1
          · have s8 := s7.f2 hT f d
            refine j_if_eq (tgt := 90) dX6_readsPerson_76 (by decide) (fun h76 => absurd h76 (by decide)) (fun _ => ?_)
            refine j_aload_n dX6_readsPerson_79 rfl rfl ?_
            refine j_bipush (v := 20) dX6_readsPerson_80 (by decide) ?_
            refine j_bipush (v := 99) dX6_readsPerson_82 (by decide) ?_
            refine cV6_186 (d1 := 4) rfl dX6_readsPerson_84 (by decide) (Nat.le_of_ble_eq_true rfl) ?_
            refine c_takesWhole (lo := 20) (hi := 99) s8.2.1 s8.2.2.1 (by decide) (by decide) (fun e he mi1 ml1 f g0 g1 => ?_) (fun q9 he9 m9 l9 f d g9 => ?_)
            · refine j_if_ne (tgt := 92) dX6_readsPerson_87 (by decide) (fun h87 => absurd (by decide) h87) (fun _ => ?_)
              refine j_iconst (v := 0) dX6_readsPerson_90 (by decide) ?_
              refine j_zret rfl (by decide) dX6_readsPerson_91 ?_
              exact hE e (by simp only [liP, he2, he3, he5, he6, he8, he, eb_r, eb_l]) mi1 ml1 (s8.1.tr (f.ft T)) g0 g1
            · have s9 := s8.f2 hT f d
              refine j_if_ne (tgt := 92) dX6_readsPerson_87 (by decide) (fun _ => ?_) (fun h87 => absurd h87 (by decide))
              refine j_aload_n dX6_readsPerson_92 rfl rfl ?_
              refine j_aload_n dX6_readsPerson_93 rfl rfl ?_
              refine gI6_38 rfl dX6_readsPerson_94 ?_
              rw [g9 _ rfl]
              refine pI6_243 (kP hT (show t 0 5 < 6 by omega)) dX6_readsPerson_97 ?_
              have s10 := s9.put hT (r := 6) (i := t 0 5) (x := q9.2) (a := T + 10 + t 0 5) (s := 2) (by unfold dU; omega) (Nat.add_assoc T 10 (t 0 5)) rfl
              have g10 : up m9 (T + 10 + t 0 5) (2) (nI (q9.2)) 2 8 = nI (q9.2) := by rw [up_off _ _ (by omega)]; exact g9 _ rfl 
              generalize up m9 (T + 10 + t 0 5) (2) (nI (q9.2)) = m10 at s10 g10 ⊢
              refine j_aload_n dX6_readsPerson_100 rfl rfl ?_
              refine j_ldcS6_246 dX6_readsPerson_101 ?_
              refine cV6_182 (d1 := 8) rfl dX6_readsPerson_103 (by decide) (Nat.le_of_ble_eq_true rfl) ?_
              refine c_takesWord (i := 17) s10.2.1 s10.2.2.1 (by decide) (fun e he mi1 ml1 f g0 g1 => ?_) (fun q11 he11 m11 l11 f d g11 => ?_)
              · refine j_if_eq (tgt := 117) dX6_readsPerson_106 (by decide) (fun _ => ?_) (fun h106 => absurd (by decide) h106)
                refine j_iconst (v := 0) dX6_readsPerson_117 (by decide) ?_
                refine j_zret rfl (by decide) dX6_readsPerson_118 ?_
                exact hE e (by simp only [liP, he2, he3, he5, he6, he8, he9, he, eb_r, eb_l]) mi1 ml1 (s10.1.tr (f.ft T)) g0 g1
              · have s11 := s10.f2 hT f d
                refine j_if_eq (tgt := 117) dX6_readsPerson_106 (by decide) (fun h106 => absurd h106 (by decide)) (fun _ => ?_)
                refine j_aload_n dX6_readsPerson_109 rfl rfl ?_
                refine j_iconst (v := 3) dX6_readsPerson_110 (by decide) ?_
                refine cV6_248 (d1 := 4) rfl dX6_readsPerson_111 (by decide) (Nat.le_of_ble_eq_true rfl) ?_
                refine c_takesLook (m := 3) s11.2.1 s11.2.2.1 (by decide) (fun e he mi1 ml1 f g0 g1 => ?_) (fun q12 he12 m12 l12 f d g12 => ?_)
                · refine j_if_ne (tgt := 119) dX6_readsPerson_114 (by decide) (fun h114 => absurd (by decide) h114) (fun _ => ?_)
                  refine j_iconst (v := 0) dX6_readsPerson_117 (by decide) ?_
                  refine j_zret rfl (by decide) dX6_readsPerson_118 ?_
                  exact hE e (by simp only [liP, he2, he3, he5, he6, he8, he9, he11, he, eb_r, eb_l]) mi1 ml1 (s11.1.tr (f.ft T)) g0 g1
                · have s12 := s11.f2 hT f d
                  refine j_if_ne (tgt := 119) dX6_readsPerson_114 (by decide) (fun _ => ?_) (fun h114 => absurd h114 (by decide))
                  refine j_aload_n dX6_readsPerson_119 rfl rfl ?_
                  refine gI6_38 rfl dX6_readsPerson_120 ?_
                  rw [g12 _ rfl]
                  refine j_aload_n dX6_readsPerson_123 rfl rfl ?_
                  refine gR6_251 (kP hT (show t 0 5 < 6 by omega)) dX6_readsPerson_124 (xT_m hX hT hc) ?_
                  refine j_iconst (v := 0) dX6_readsPerson_127 (by decide) ?_
                  refine j_iconst (v := 3) dX6_readsPerson_128 (by decide) ?_
                  refine cS6_254 (d1 := 1) dX6_readsPerson_129 (by decide) (Nat.le_of_ble_eq_true rfl) ?_
                  refine c_spread3 (u := q12.2) (kM hT hc) (lM hT hc) (by have := pL_r he12; omega) ?_
                  have s13 := s12.put hT (r := 7) (i := 5 * t 0 5 + 2) (x := q12.2 % 4) (a := T + 10 + t 0 5 + 10) (s := 2) (by unfold dU; omega) (by show T + 10 + t 0 5 + 10 = T + (20 + (5 * t 0 5 + 2) / 5); omega) (by show 2 = (5 * t 0 5 + 2) % 5; omega)
                  have g13 : up m12 (T + 10 + t 0 5 + 10) (2) (nI (q12.2 % 4)) 2 8 = nI (q12.2) := by rw [up_off _ _ (by omega)]; exact g12 _ rfl 
                  generalize up m12 (T + 10 + t 0 5 + 10) (2) (nI (q12.2 % 4)) = m13 at s13 g13 ⊢
                  have s14 := s13.put hT (r := 7) (i := 5 * t 0 5 + 1) (x := q12.2 / 4 % 4) (a := T + 10 + t 0 5 + 10) (s := 1) (by unfold dU; omega) (by show T + 10 + t 0 5 + 10 = T + (20 + (5 * t 0 5 + 1) / 5); omega) (by show 1 = (5 * t 0 5 + 1) % 5; omega)
                  have g14 : up m13 (T + 10 + t 0 5 + 10) (1) (nI (q12.2 / 4 % 4)) 2 8 = nI (q12.2) := by rw [up_off _ _ (by omega)]; exact g13 
                  generalize up m13 (T + 10 + t 0 5 + 10) (1) (nI (q12.2 / 4 % 4)) = m14 at s14 g14 ⊢
                  have s15 := s14.put hT (r := 7) (i := 5 * t 0 5) (x := q12.2 / 4 / 4 % 4) (a := T + 10 + t 0 5 + 10) (s := 0) (by unfold dU; omega) (by show T + 10 + t 0 5 + 10 = T + (20 + (5 * t 0 5) / 5); omega) (by show 0 = (5 * t 0 5) % 5; omega)
                  have g15 : up m14 (T + 10 + t 0 5 + 10) (0) (nI (q12.2 / 4 / 4 % 4)) 2 8 = nI (q12.2) := by rw [up_off _ _ (by omega)]; exact g14 
                  generalize up m14 (T + 10 + t 0 5 + 10) (0) (nI (q12.2 / 4 / 4 % 4)) = m15 at s15 g15 ⊢
                  refine j_aload_n dX6_readsPerson_132 rfl rfl ?_
                  refine j_ldcS6_258 dX6_readsPerson_133 ?_
                  refine cV6_182 (d1 := 8) rfl dX6_readsPerson_136 (by decide) (Nat.le_of_ble_eq_true rfl) ?_
                  refine c_takesWord (i := 18) s15.2.1 s15.2.2.1 (by decide) (fun e he mi1 ml1 f g0 g1 => ?_) (fun q16 he16 m16 l16 f d g16 => ?_)
                  · refine j_if_eq (tgt := 150) dX6_readsPerson_139 (by decide) (fun _ => ?_) (fun h139 => absurd (by decide) h139)
                    refine j_iconst (v := 0) dX6_readsPerson_150 (by decide) ?_
                    refine j_zret rfl (by decide) dX6_readsPerson_151 ?_
                    exact hE e (by simp only [liP, he2, he3, he5, he6, he8, he9, he11, he12, he, eb_r, eb_l]) mi1 ml1 (s15.1.tr (f.ft T)) g0 g1
                  · have s16 := s15.f2 hT f d
                    refine j_if_eq (tgt := 150) dX6_readsPerson_139 (by decide) (fun h139 => absurd h139 (by decide)) (fun _ => ?_)
                    refine j_aload_n dX6_readsPerson_142 rfl rfl ?_
                    refine j_iconst (v := 2) dX6_readsPerson_143 (by decide) ?_
                    refine cV6_248 (d1 := 4) rfl dX6_readsPerson_144 (by decide) (Nat.le_of_ble_eq_true rfl) ?_
                    refine c_takesLook (m := 2) s16.2.1 s16.2.2.1 (by decide) (fun e he mi1 ml1 f g0 g1 => ?_) (fun q17 he17 m17 l17 f d g17 => ?_)
                    · refine j_if_ne (tgt := 152) dX6_readsPerson_147 (by decide) (fun h147 => absurd (by decide) h147) (fun _ => ?_)
                      refine j_iconst (v := 0) dX6_readsPerson_150 (by decide) ?_
                      refine j_zret rfl (by decide) dX6_readsPerson_151 ?_
                      exact hE e (by simp only [liP, he2, he3, he5, he6, he8, he9, he11, he12, he16, he, eb_r, eb_l]) mi1 ml1 (s16.1.tr (f.ft T)) g0 g1
                    · have s17 := s16.f2 hT f d
                      refine j_if_ne (tgt := 152) dX6_readsPerson_147 (by decide) (fun _ => ?_) (fun h147 => absurd h147 (by decide))
                      refine j_aload_n dX6_readsPerson_152 rfl rfl ?_
                      refine gI6_38 rfl dX6_readsPerson_153 ?_
                      rw [g17 _ rfl]
                      refine j_aload_n dX6_readsPerson_156 rfl rfl ?_
                      refine gR6_251 (kP hT (show t 0 5 < 6 by omega)) dX6_readsPerson_157 (xT_m hX hT hc) ?_
                      refine j_iconst (v := 3) dX6_readsPerson_160 (by decide) ?_
                      refine j_iconst (v := 2) dX6_readsPerson_161 (by decide) ?_
                      refine cS6_254 (d1 := 1) dX6_readsPerson_162 (by decide) (Nat.le_of_ble_eq_true rfl) ?_
                      refine c_spread2 (u := q17.2) (kM hT hc) (lM hT hc) (by have := pL_r he17; omega) ?_
                      have s18 := s17.put hT (r := 7) (i := 5 * t 0 5 + 4) (x := q17.2 % 4) (a := T + 10 + t 0 5 + 10) (s := 4) (by unfold dU; omega) (by show T + 10 + t 0 5 + 10 = T + (20 + (5 * t 0 5 + 4) / 5); omega) (by show 4 = (5 * t 0 5 + 4) % 5; omega)
                      have g18 : up m17 (T + 10 + t 0 5 + 10) (4) (nI (q17.2 % 4)) 2 8 = nI (q17.2) := by rw [up_off _ _ (by omega)]; exact g17 _ rfl 
                      generalize up m17 (T + 10 + t 0 5 + 10) (4) (nI (q17.2 % 4)) = m18 at s18 g18 ⊢
                      have s19 := s18.put hT (r := 7) (i := 5 * t 0 5 + 3) (x := q17.2 / 4 % 4) (a := T + 10 + t 0 5 + 10) (s := 3) (by unfold dU; omega) (by show T + 10 + t 0 5 + 10 = T + (20 + (5 * t 0 5 + 3) / 5); omega) (by show 3 = (5 * t 0 5 + 3) % 5; omega)
                      have g19 : up m18 (T + 10 + t 0 5 + 10) (3) (nI (q17.2 / 4 % 4)) 2 8 = nI (q17.2) := by rw [up_off _ _ (by omega)]; exact g18 
                      generalize up m18 (T + 10 + t 0 5 + 10) (3) (nI (q17.2 / 4 % 4)) = m19 at s19 g19 ⊢
                      refine j_aload_n dX6_readsPerson_165 rfl rfl ?_
                      refine j_dup dX6_readsPerson_166 rfl ?_
                      refine gI6_104 (kT0 hT) dX6_readsPerson_167 ?_
                      rw [show m19 T 5 = nI (t 0 5) from s19.rd 0 5 (Or.inl (Or.inl (Or.inl (Or.inl (Or.inl (Or.inl (Or.inl (Or.inl (Or.inl ⟨rfl, by decide, fun q => absurd q (by decide)⟩)))))))))]
                      refine j_iconst (v := 1) dX6_readsPerson_170 (by decide) ?_
                      refine j_iadd dX6_readsPerson_171 ?_
                      rw [nI_1]
                      refine pI6_104 (kT0 hT) dX6_readsPerson_172 ?_
                      have s20 := s19.put hT (r := 0) (i := 5) (x := t 0 5 + 1) (a := T) (s := 5) (by unfold dU; omega) rfl rfl
                      have g20 : up m19 (T) (5) (nI (t 0 5 + 1)) 2 8 = nI (q17.2) := by rw [up_off _ _ (by omega)]; exact g19 
                      generalize up m19 (T) (5) (nI (t 0 5 + 1)) = m20 at s20 g20 ⊢
                      refine j_iconst (v := 1) dX6_readsPerson_175 (by decide) ?_
                      refine j_zret rfl (by decide) dX6_readsPerson_176 ?_
                      refine hO (q17.1, q2.2, ut (pMk (ut (ut (ut t 4 (t 0 5) q3.2) 5 (t 0 5) q6) 6 (t 0 5) q9.2) (t 0 5) q12.2 q17.2) 0 5 (t 0 5 + 1)) (by simp only [liP, he2, he3, he5, he6, he8, he9, he11, he12, he16, he17, eb_r, eb_l]) m20 l17 s20.1 s20.2.2.1 s20.2.2.2.1 ⟨s20.2.2.2.2.2.2, s20.2.2.2.2.1.mono (fun r i h => ?_)⟩
                      have h : (r = 0 ∧ i < 9 ∧ (i < 3 → 0 < t 0 2)) ∨ (r = 1 ∧ i < t 0 3) ∨ (r = 2 ∧ i < 36) ∨ (4 ≤ r ∧ r ≤ 6 ∧ i < t 0 5 + 1) ∨ (r = 7 ∧ i < 5 * (t 0 5 + 1)) ∨ (8 ≤ r ∧ r ≤ 10 ∧ i < t 0 6) ∨ (11 ≤ r ∧ r ≤ 13 ∧ i < t 0 7) ∨ (14 ≤ r ∧ r ≤ 16 ∧ i < t 0 8) := h
                      rcases h with h | h | h | h | h | h | h | h
                      · exact (Or.inl (Or.inl (Or.inl (Or.inl (Or.inl (Or.inl (Or.inl (Or.inl (Or.inl (Or.inl h))))))))))
                      · exact (Or.inl (Or.inl (Or.inl (Or.inl (Or.inl (Or.inl (Or.inl (Or.inl (Or.inl (Or.inr (Or.inl h)))))))))))
                      · exact (Or.inl (Or.inl (Or.inl (Or.inl (Or.inl (Or.inl (Or.inl (Or.inl (Or.inl (Or.inr (Or.inr (Or.inl h))))))))))))
                      · by_cases e : i < t 0 5
                        · exact (Or.inl (Or.inl (Or.inl (Or.inl (Or.inl (Or.inl (Or.inl (Or.inl (Or.inl (Or.inr (Or.inr (Or.inr (Or.inl ⟨h.1, h.2.1, e⟩)))))))))))))
                        · have e2 : r = 4 ∨ r = 5 ∨ r = 6 := by omega
                          have e3 : i = t 0 5 := by omega
                          rcases e2 with e2 | e2 | e2
                          · exact (Or.inl (Or.inl (Or.inl (Or.inl (Or.inl (Or.inl (Or.inl (Or.inl (Or.inr ⟨e2, e3⟩)))))))))
                          · exact (Or.inl (Or.inl (Or.inl (Or.inl (Or.inl (Or.inl (Or.inl (Or.inr ⟨e2, e3⟩))))))))
                          · exact (Or.inl (Or.inl (Or.inl (Or.inl (Or.inl (Or.inl (Or.inr ⟨e2, e3⟩)))))))
                      · by_cases e : i < 5 * t 0 5
                        · exact (Or.inl (Or.inl (Or.inl (Or.inl (Or.inl (Or.inl (Or.inl (Or.inl (Or.inl (Or.inr (Or.inr (Or.inr (Or.inr (Or.inl ⟨h.1, e⟩))))))))))))))
                        · have e2 : i = 5 * t 0 5 ∨ i = 5 * t 0 5 + 1 ∨ i = 5 * t 0 5 + 2 ∨ i = 5 * t 0 5 + 3 ∨ i = 5 * t 0 5 + 4 := by omega
                          rcases e2 with e2 | e2 | e2 | e2 | e2
                          · exact (Or.inl (Or.inl (Or.inl (Or.inr ⟨h.1, e2⟩))))
                          · exact (Or.inl (Or.inl (Or.inl (Or.inl (Or.inr ⟨h.1, e2⟩)))))
                          · exact (Or.inl (Or.inl (Or.inl (Or.inl (Or.inl (Or.inr ⟨h.1, e2⟩))))))
                          · exact (Or.inl (Or.inr ⟨h.1, e2⟩))
                          · exact (Or.inl (Or.inl (Or.inr ⟨h.1, e2⟩)))
                      · exact (Or.inl (Or.inl (Or.inl (Or.inl (Or.inl (Or.inl (Or.inl (Or.inl (Or.inl (Or.inr (Or.inr (Or.inr (Or.inr (Or.inr (Or.inl h)))))))))))))))
                      · exact (Or.inl (Or.inl (Or.inl (Or.inl (Or.inl (Or.inl (Or.inl (Or.inl (Or.inl (Or.inr (Or.inr (Or.inr (Or.inr (Or.inr (Or.inr (Or.inl h))))))))))))))))
                      · exact (Or.inl (Or.inl (Or.inl (Or.inl (Or.inl (Or.inl (Or.inl (Or.inl (Or.inl (Or.inr (Or.inr (Or.inr (Or.inr (Or.inr (Or.inr (Or.inr h))))))))))))))))
theorem c_readsLane (hT : TT T) (hB : RB mi ml mr B n) (hD : RD mi ml B n p) (hN : RNm mi ml N) (hI : NI N t) (hW : WT t) (hP : RP mi T t)  (hE : hEL post mi ml mr dom T (liL B n (p, N, t))) (hO : hOL post mi ml mr dom B n T (liL B n (p, N, t))) : CT G 9 0 0 yX6_readsLane cX6_readsLane 4 (some .boolean) [.ref 2, .ref T] mi ml mr dom post := by
  have hX := hB.1
  have hw := hW.1
  have hge := hT.ge
  have hJ := hI.nj
  have s0 : LZ mr mi ml T B n p N (dm t) t (if 0 < t 0 2 then 1 else 0) mi ml := ⟨FT.rfl' T mi ml, hB, hD, hN, hP.2, dm_U hW, hP.1⟩
  refine enter 2 (by decide) rfl rfl (fun X => ?_)
  refine j_aload_n dX6_readsLane_0 rfl rfl ?_
  refine cV6_87 (d1 := 3) rfl dX6_readsLane_1 (by decide) (Nat.le_of_ble_eq_true rfl) ?_
  refine c_step s0.2.1 s0.2.2.1.le s0.2.2.1.2.2.1 (fun m1 l1 f g8 d => ?_)
  have s1 := s0.f2 hT f d
  refine j_aload_n dX6_readsLane_4 rfl rfl ?_
  refine j_iconst (v := 1) dX6_readsLane_5 (by decide) ?_
  refine cV6_208 (d1 := 4) rfl dX6_readsLane_6 (by decide) (Nat.le_of_ble_eq_true rfl) ?_
  refine c_takesName (s := 1) s1.2.1 s1.2.2.1 s1.2.2.2.1 (fun k hk => by have := (hJ k hk).1; omega) (by decide) (fun e he mi1 ml1 f g0 g1 => ?_) (fun q2 he2 m2 l2 f d g2 => ?_)
  · refine j_if_ne (tgt := 14) dX6_readsLane_9 (by decide) (fun h9 => absurd (by decide) h9) (fun _ => ?_)
    refine j_iconst (v := 0) dX6_readsLane_12 (by decide) ?_
    refine j_zret rfl (by decide) dX6_readsLane_13 ?_
    exact hE e (by simp only [liL, he, eb_r, eb_l]) mi1 ml1 (s1.1.tr (f.ft T)) g0 g1
  · have s2 := s1.f2 hT f d
    refine j_if_ne (tgt := 14) dX6_readsLane_9 (by decide) (fun _ => ?_) (fun h9 => absurd h9 (by decide))
    refine j_aload_n dX6_readsLane_14 rfl rfl ?_
    refine gI6_38 rfl dX6_readsLane_15 ?_
    rw [g2 _ rfl]
    refine j_istore_n (lv2 := [_, _, _, _]) dX6_readsLane_18 rfl (by decide) rfl rfl ?_
    refine j_aload_n dX6_readsLane_19 rfl rfl ?_
    refine j_iconst (v := 1) dX6_readsLane_20 (by decide) ?_
    refine cV6_211 (d1 := 3) rfl dX6_readsLane_21 (by decide) (Nat.le_of_ble_eq_true rfl) ?_
    refine c_findsName (s := 1) s2.2.1 s2.2.2.1 s2.2.2.2.1 (fun k hk => by have := (hJ k hk).1; omega) (by decide) (fun e he mi1 ml1 f g0 g1 => ?_) (fun q3 he3 m3 l3 f d g3 => ?_)
    · refine j_if_ne (tgt := 29) dX6_readsLane_24 (by decide) (fun h24 => absurd (by decide) h24) (fun _ => ?_)
      refine j_iconst (v := 0) dX6_readsLane_27 (by decide) ?_
      refine j_zret rfl (by decide) dX6_readsLane_28 ?_
      exact hE e (by simp only [liL, he2, he, eb_r, eb_l]) mi1 ml1 (s2.1.tr (f.ft T)) g0 g1
    · have s3 := s2.f2 hT f d
      refine j_if_ne (tgt := 29) dX6_readsLane_24 (by decide) (fun _ => ?_) (fun h24 => absurd h24 (by decide))
      refine j_aload_n dX6_readsLane_29 rfl rfl ?_
      refine gI6_38 rfl dX6_readsLane_30 ?_
      rw [g3 _ rfl]
      refine j_istore_n (lv2 := [_, _, _, _]) dX6_readsLane_33 rfl (by decide) rfl rfl ?_
      refine j_iload_n dX6_readsLane_34 rfl rfl ?_
      refine j_iload_n dX6_readsLane_35 rfl rfl ?_
      have bh := (fN_lt hJ he2).1 rfl
      have bg := (fN_lt hJ he3).1 rfl
      refine j_icmp_eq (tgt := 51) dX6_readsLane_36 (by decide) (fun h36 => ?_) (fun h36 => ?_)
      · have e36 : q3 = q2 ∨ 0 < t 2 (6 * q2 + q3) := by rw [nI_eq (by omega) (by omega)] at h36; exact Or.inl h36
        refine j_aload_n dX6_readsLane_51 rfl rfl ?_
        refine j_iconst (v := 3) dX6_readsLane_52 (by decide) ?_
        refine cV6_97 (d1 := 1) rfl dX6_readsLane_53 (by decide) (Nat.le_of_ble_eq_true rfl) ?_
        refine c_fails (x := 3) s3.2.2.1 (fun mi1 ml1 f g0 g1 => ?_)
        refine j_zret rfl (by decide) dX6_readsLane_56 ?_
        exact hE (3, tA B n (tE B n (tE B n p))) (by simp only [liL, he2, he3, eb_r, eb_l, if_pos e36]) mi1 ml1 (s3.1.tr (f.ft T)) g0 g1
      · refine j_aload_n dX6_readsLane_39 rfl rfl ?_
        refine gR6_147 (kT0 hT) dX6_readsLane_40 (xT_lanes hX hT) ?_
        refine j_iload_n dX6_readsLane_43 rfl rfl ?_
        refine j_iload_n dX6_readsLane_44 rfl rfl ?_
        refine cV6_214 (d1 := 1) (kT2 hT) dX6_readsLane_45 (by decide) (Nat.le_of_ble_eq_true rfl) ?_
        refine c_join (v := t 2 (6 * q2 + q3)) hX hT (by omega) (by omega) (s3.rd 2 (6 * q2 + q3) (Or.inr (Or.inr (Or.inl ⟨rfl, by omega⟩)))) (by have := hW.2.2.1 (6 * q2 + q3); omega) ?_
        refine j_if_eq (tgt := 57) dX6_readsLane_48 (by decide) (fun h48 => ?_) (fun h48 => ?_)
        · have e57 : ¬ (q3 = q2 ∨ 0 < t 2 (6 * q2 + q3)) := by rw [bN_eq0, decide_eq_false_iff_not] at h48; exact fun z => z.elim (fun z => h36 (by rw [z])) h48
          refine j_aload_n dX6_readsLane_57 rfl rfl ?_
          refine cV6_87 (d1 := 3) rfl dX6_readsLane_58 (by decide) (Nat.le_of_ble_eq_true rfl) ?_
          refine c_step s3.2.1 s3.2.2.1.le s3.2.2.1.2.2.1 (fun m4 l4 f g8 d => ?_)
          have s4 := s3.f2 hT f d
          have g4 := g8.trans (g3 _ rfl)
          refine j_aload_n dX6_readsLane_61 rfl rfl ?_
          refine j_ldcS6_217 dX6_readsLane_62 ?_
          refine cV6_182 (d1 := 8) rfl dX6_readsLane_64 (by decide) (Nat.le_of_ble_eq_true rfl) ?_
          refine c_takesWord (i := 11) s4.2.1 s4.2.2.1 (by decide) (fun e he mi1 ml1 f g0 g1 => ?_) (fun q5 he5 m5 l5 f d g5 => ?_)
          · refine j_if_eq (tgt := 80) dX6_readsLane_67 (by decide) (fun _ => ?_) (fun h67 => absurd (by decide) h67)
            refine j_iconst (v := 0) dX6_readsLane_80 (by decide) ?_
            refine j_zret rfl (by decide) dX6_readsLane_81 ?_
            exact hE e (by simp only [liL, he2, he3, he, eb_r, eb_l, if_neg e57]) mi1 ml1 (s4.1.tr (f.ft T)) g0 g1
          · have s5 := s4.f2 hT f d
            refine j_if_eq (tgt := 80) dX6_readsLane_67 (by decide) (fun h67 => absurd h67 (by decide)) (fun _ => ?_)
            refine j_aload_n dX6_readsLane_70 rfl rfl ?_
            refine j_iconst (v := 1) dX6_readsLane_71 (by decide) ?_
            refine j_bipush (v := 60) dX6_readsLane_72 (by decide) ?_
            refine cV6_186 (d1 := 4) rfl dX6_readsLane_74 (by decide) (Nat.le_of_ble_eq_true rfl) ?_
            refine c_takesWhole (lo := 1) (hi := 60) s5.2.1 s5.2.2.1 (by decide) (by decide) (fun e he mi1 ml1 f g0 g1 => ?_) (fun q6 he6 m6 l6 f d g6 => ?_)
            · refine j_if_ne (tgt := 82) dX6_readsLane_77 (by decide) (fun h77 => absurd (by decide) h77) (fun _ => ?_)
              refine j_iconst (v := 0) dX6_readsLane_80 (by decide) ?_
              refine j_zret rfl (by decide) dX6_readsLane_81 ?_
              exact hE e (by simp only [liL, he2, he3, he5, he, eb_r, eb_l, if_neg e57]) mi1 ml1 (s5.1.tr (f.ft T)) g0 g1
            · have s6 := s5.f2 hT f d
              refine j_if_ne (tgt := 82) dX6_readsLane_77 (by decide) (fun _ => ?_) (fun h77 => absurd h77 (by decide))
              refine j_aload_n dX6_readsLane_82 rfl rfl ?_
              refine gR6_147 (kT0 hT) dX6_readsLane_83 (xT_lanes hX hT) ?_
              refine j_iload_n dX6_readsLane_86 rfl rfl ?_
              refine j_iload_n dX6_readsLane_87 rfl rfl ?_
              refine j_aload_n dX6_readsLane_88 rfl rfl ?_
              refine gI6_38 rfl dX6_readsLane_89 ?_
              rw [g6 _ rfl]
              refine cV6_219 (d1 := 1) (kT2 hT) dX6_readsLane_92 (by decide) (Nat.le_of_ble_eq_true rfl) ?_
              refine c_add (c := t 0 4) hX hT (by omega) (by omega) (s6.rd 0 4 (Or.inl ⟨rfl, by decide, fun q => absurd q (by decide)⟩)) ?_
              have s7 := s6.put hT (r := 2) (i := 6 * q2 + q3) (x := q6.2) (a := T + 3) (s := 6 * q2 + q3) (by unfold dU; omega) rfl rfl
              have g7 : up m6 (T + 3) (6 * q2 + q3) (nI (q6.2)) 2 8 = nI (q6.2) := by rw [up_off _ _ (by omega)]; exact g6 _ rfl 
              generalize up m6 (T + 3) (6 * q2 + q3) (nI (q6.2)) = m7 at s7 g7 ⊢
              have s8 := s7.put hT (r := 2) (i := 6 * q3 + q2) (x := q6.2) (a := T + 3) (s := 6 * q3 + q2) (by unfold dU; omega) rfl rfl
              have g8 : up m7 (T + 3) (6 * q3 + q2) (nI (q6.2)) 2 8 = nI (q6.2) := by rw [up_off _ _ (by omega)]; exact g7 
              generalize up m7 (T + 3) (6 * q3 + q2) (nI (q6.2)) = m8 at s8 g8 ⊢
              have s9 := s8.put hT (r := 0) (i := 4) (x := t 0 4 + 1) (a := T + 2) (s := 0) (by unfold dU; omega) rfl rfl
              have g9 : up m8 (T + 2) (0) (nI (t 0 4 + 1)) 2 8 = nI (q6.2) := by rw [up_off _ _ (by omega)]; exact g8 
              generalize up m8 (T + 2) (0) (nI (t 0 4 + 1)) = m9 at s9 g9 ⊢
              refine j_iconst (v := 1) dX6_readsLane_95 (by decide) ?_
              refine j_zret rfl (by decide) dX6_readsLane_96 ?_
              refine hO (q6.1, N, ut (ut (ut t 2 (6 * q2 + q3) q6.2) 2 (6 * q3 + q2) q6.2) 0 4 (t 0 4 + 1)) (by simp only [liL, he2, he3, he5, he6, eb_r, eb_l, if_neg e57]) m9 l6 s9.1 s9.2.2.1 s9.2.2.2.1 ⟨s9.2.2.2.2.2.2, s9.2.2.2.2.1.mono (fun r i h => ?_)⟩
              have h : (r = 0 ∧ i < 9 ∧ (i < 3 → 0 < t 0 2)) ∨ (r = 1 ∧ i < t 0 3) ∨ (r = 2 ∧ i < 36) ∨ (4 ≤ r ∧ r ≤ 6 ∧ i < t 0 5) ∨ (r = 7 ∧ i < 5 * (t 0 5)) ∨ (8 ≤ r ∧ r ≤ 10 ∧ i < t 0 6) ∨ (11 ≤ r ∧ r ≤ 13 ∧ i < t 0 7) ∨ (14 ≤ r ∧ r ≤ 16 ∧ i < t 0 8) := h
              rcases h with h | h | h | h | h | h | h | h
              · exact (Or.inl (Or.inl (Or.inl (Or.inl h))))
              · exact (Or.inl (Or.inl (Or.inl (Or.inr (Or.inl h)))))
              · exact (Or.inl (Or.inl (Or.inl (Or.inr (Or.inr (Or.inl h))))))
              · exact (Or.inl (Or.inl (Or.inl (Or.inr (Or.inr (Or.inr (Or.inl h)))))))
              · exact (Or.inl (Or.inl (Or.inl (Or.inr (Or.inr (Or.inr (Or.inr (Or.inl h))))))))
              · exact (Or.inl (Or.inl (Or.inl (Or.inr (Or.inr (Or.inr (Or.inr (Or.inr (Or.inl h)))))))))
              · exact (Or.inl (Or.inl (Or.inl (Or.inr (Or.inr (Or.inr (Or.inr (Or.inr (Or.inr (Or.inl h))))))))))
              · exact (Or.inl (Or.inl (Or.inl (Or.inr (Or.inr (Or.inr (Or.inr (Or.inr (Or.inr (Or.inr h))))))))))
        · have e48 : q3 = q2 ∨ 0 < t 2 (6 * q2 + q3) := by rw [bN_eq0, Bool.not_eq_false, decide_eq_true_eq] at h48; exact Or.inr h48
          refine j_aload_n dX6_readsLane_51 rfl rfl ?_
          refine j_iconst (v := 3) dX6_readsLane_52 (by decide) ?_
          refine cV6_97 (d1 := 1) rfl dX6_readsLane_53 (by decide) (Nat.le_of_ble_eq_true rfl) ?_
          refine c_fails (x := 3) s3.2.2.1 (fun mi1 ml1 f g0 g1 => ?_)
          refine j_zret rfl (by decide) dX6_readsLane_56 ?_
          exact hE (3, tA B n (tE B n (tE B n p))) (by simp only [liL, he2, he3, eb_r, eb_l, if_pos e48]) mi1 ml1 (s3.1.tr (f.ft T)) g0 g1
end C6e
