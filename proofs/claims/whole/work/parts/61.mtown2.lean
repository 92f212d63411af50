/-! the reference: town -/
def EOK {α : Type} (x : ER α) : Prop := ∀ e, x = .inl e → 1 ≤ e.1 ∧ e.1 ≤ 7
theorem EOK.l {α : Type} {a b : Nat} (h1 : 1 ≤ a) (h2 : a ≤ 7) : EOK (.inl (a, b) : ER α) := fun e h => by cases h; exact ⟨h1, h2⟩
theorem EOK.r {α : Type} {a : α} : EOK (.inr a : ER α) := fun e h => by cases h
theorem EOK.b {α β : Type} {x : ER α} {f : α → ER β} (h : EOK x) (hf : ∀ a, EOK (f a)) : EOK (eb x f) := by
  cases x with
  | inl e => intro e' he; exact h e' (by cases he; rfl)
  | inr a => exact hf a
section EO
variable {B : Nat → Nat} {n : Nat}
theorem eo_W {i p : Nat} : EOK (pW B n i p) := by unfold pW; split; exact EOK.r; exact EOK.l (by decide) (by decide)
theorem eo_N {a b p : Nat} : EOK (pN B n a b p) := by unfold pN; split; exact EOK.l (by decide) (by decide); split; exact EOK.l (by decide) (by decide); exact EOK.r
theorem eo_K {p : Nat} : EOK (pK B n p) := by unfold pK; split; exact EOK.r; split; exact EOK.r; split; exact EOK.r; exact EOK.l (by decide) (by decide)
theorem eo_L {m p : Nat} : EOK (pL B n m p) := by unfold pL; split; exact EOK.l (by decide) (by decide); split; exact EOK.l (by decide) (by decide); split; exact EOK.l (by decide) (by decide); exact EOK.r
theorem eo_f {N : NS} {s p : Nat} : EOK (fN B n N s p) := by unfold fN; split; exact EOK.l (by decide) (by decide); split; exact EOK.l (by decide) (by decide); exact EOK.r
theorem eo_n {N : NS} {s k p : Nat} : EOK (nN B n N s k p) := by unfold nN; split; exact EOK.l (by decide) (by decide); split; exact EOK.l (by decide) (by decide); exact EOK.r
theorem eo_A {s : RS} : EOK (liA B n s) := by
  unfold liA
  split
  · exact EOK.l (by decide) (by decide)
  split
  · split
    · exact EOK.l (by decide) (by decide)
    · exact eo_W.b fun _ => eo_N.b fun _ => eo_W.b fun _ => eo_N.b fun _ => eo_W.b fun _ => eo_N.b fun _ => EOK.r
  split
  · exact EOK.l (by decide) (by decide)
  split
  · split
    · exact eo_n.b fun _ => eo_W.b fun _ => eo_N.b fun _ => EOK.r
    · exact EOK.l (by decide) (by decide)
  split
  · split
    · exact eo_f.b fun _ => eo_f.b fun _ => by
        split
        · exact EOK.l (by decide) (by decide)
        · exact eo_W.b fun _ => eo_N.b fun _ => EOK.r
    · exact EOK.l (by decide) (by decide)
  split
  · split
    · exact eo_n.b fun _ => eo_K.b fun _ => eo_W.b fun _ => eo_f.b fun _ => eo_W.b fun _ => eo_N.b fun _ => eo_W.b fun _ => eo_L.b fun _ => eo_W.b fun _ => eo_L.b fun _ => EOK.r
    · exact EOK.l (by decide) (by decide)
  split
  · split
    · exact eo_n.b fun _ => eo_W.b fun _ => eo_N.b fun _ => eo_W.b fun _ => eo_f.b fun _ => eo_W.b fun _ => eo_f.b fun _ => by
        split
        · exact EOK.l (by decide) (by decide)
        · exact EOK.r
    · exact EOK.l (by decide) (by decide)
  split
  · split
    · exact eo_f.b fun _ => eo_f.b fun _ => eo_W.b fun _ => eo_N.b fun _ => EOK.r
    · exact EOK.l (by decide) (by decide)
  · split
    · exact eo_f.b fun _ => eo_L.b fun _ => eo_W.b fun _ => eo_N.b fun _ => EOK.r
    · exact EOK.l (by decide) (by decide)
theorem eo_rd : ∀ k (s : RS), EOK (rdA B n k s)
  | 0, s => EOK.l (by decide) (by decide)
  | k + 1, s => by
    rw [rdA]
    refine eo_A.b fun s' => ?_
    split
    · split
      · exact EOK.l (by decide) (by decide)
      · exact EOK.r
    · split
      · exact EOK.l (by decide) (by decide)
      · exact eo_rd k _
theorem rd_GB : ∀ k (s : RS), WI s → GB s.2.2 → ∀ s', rdA B n k s = .inr s' → GB s'.2.2
  | 0, s, _, _, s', h => absurd h (by simp [rdA])
  | k + 1, s, I, hg, s', h => by
    rw [rdA] at h
    obtain ⟨s1, h1, h⟩ := eb_inr h
    obtain ⟨I1, -⟩ := li_inv I h1
    have g1 := (li_more I hg h1).1
    split at h
    · split at h
      · cases h
      · cases h; exact g1
    · split at h
      · cases h
      · exact rd_GB k (tE B n s1.1, s1.2) I1 g1 s' h
theorem rdT_ok {s : RS} (h : rdT B n = .inr s) : WT s.2.2 ∧ LT s.2.2 ∧ GB s.2.2 := by
  have q := rd_inv n (0, n00, t00) WI00 s h
  exact ⟨q.1.2.1, q.2, rd_GB n (0, n00, t00) WI00 (fun _ _ => Nat.zero_le _) s h⟩
end EO
def LMt (k : Nat) : List Nat := ((((((((((((((((((([2000 + 20 * k] ++ [2000 + 20 * k + 1]) ++ [2000 + 20 * k + 2]) ++ [2000 + 20 * k + 3]) ++ [2000 + 20 * k + 4]) ++ [2000 + 20 * k + 5]) ++ [2000 + 20 * k + 6]) ++ [2000 + 20 * k + 7]) ++ [2000 + 20 * k + 8]) ++ [2000 + 20 * k + 9]) ++ [2000 + 20 * k + 10]) ++ [2000 + 20 * k + 11]) ++ [2000 + 20 * k + 12]) ++ [2000 + 20 * k + 13]) ++ [2000 + 20 * k + 14]) ++ [2000 + 20 * k + 15]) ++ [2000 + 20 * k + 16]) ++ [2000 + 20 * k + 17]) ++ [2000 + 20 * k + 18]) ++ [2000 + 20 * k + 19])
def PMt (k : Nat) : List (Nat × Nat × Nat) := ((2000 + 20 * k, 28, 2000 + 20 * k + 19) :: ((2000 + 20 * k, 27, 2000 + 20 * k + 18) :: ((2000 + 20 * k, 26, 2000 + 20 * k + 17) :: ((2000 + 20 * k, 25, 2000 + 20 * k + 16) :: ((2000 + 20 * k, 24, 2000 + 20 * k + 15) :: ((2000 + 20 * k, 23, 2000 + 20 * k + 14) :: ((2000 + 20 * k, 22, 2000 + 20 * k + 13) :: ((2000 + 20 * k, 21, 2000 + 20 * k + 12) :: ((2000 + 20 * k, 20, 2000 + 20 * k + 11) :: ((2000 + 20 * k, 19, 2000 + 20 * k + 10) :: ((2000 + 20 * k, 18, 2000 + 20 * k + 9) :: ((2000 + 20 * k, 17, 2000 + 20 * k + 8) :: ((2000 + 20 * k, 16, 2000 + 20 * k + 7) :: ((2000 + 20 * k, 15, 2000 + 20 * k + 6) :: ((2000 + 20 * k, 14, 2000 + 20 * k + 5) :: ((2000 + 20 * k, 13, 2000 + 20 * k + 4) :: ((2000 + 20 * k, 12, 2000 + 20 * k + 3) :: ((2000 + 20 * k, 11, 2000 + 20 * k + 2) :: ((2000 + 20 * k, 10, 2000 + 20 * k + 1) :: [])))))))))))))))))))
theorem LMt_mem {k n : Nat} : n ∈ LMt k ↔ 2000 + 20 * k ≤ n ∧ n < 2000 + 20 * k + 20 := by
  unfold LMt
  simp only [List.mem_append, List.mem_singleton]
  omega
theorem PMt_fst {k : Nat} : ∀ q ∈ PMt k, q.1 = 2000 + 20 * k := by
  unfold PMt
  simp
theorem PMt_get {k r : Nat} (h1 : 1 ≤ r) (h2 : r ≤ 19) : ptl (PMt k) (2000 + 20 * k) (9 + r) = some (2000 + 20 * k + r) := by
  have h : r = 1 ∨ r = 2 ∨ r = 3 ∨ r = 4 ∨ r = 5 ∨ r = 6 ∨ r = 7 ∨ r = 8 ∨ r = 9 ∨ r = 10 ∨ r = 11 ∨ r = 12 ∨ r = 13 ∨ r = 14 ∨ r = 15 ∨ r = 16 ∨ r = 17 ∨ r = 18 ∨ r = 19 := by omega
  rcases h with rfl | rfl | rfl | rfl | rfl | rfl | rfl | rfl | rfl | rfl | rfl | rfl | rfl | rfl | rfl | rfl | rfl | rfl | rfl <;> simp [ptl, PMt]
def FwM (t : TW) (i : Nat) : Nat := fwM (t 2) (t 0 3) i
/-- what a new town of the reference leaves as it was -/
def TQ (k : Nat) (mi : MI) (ml : ML) (mr : MR) (dom : List Nat) (m : MI) (l : ML) (r : MR) (D : List Nat) : Prop := (∀ a, a ≠ 1000 → a ≠ 1002 → a < 2000 + 20 * k → m a = mi a) ∧ (∀ a, a ≠ 1000 → a < 2000 + 20 * k → l a = ml a) ∧ (∀ a, a ≠ 1000 → a < 2000 + 20 * k → r a = mr a) ∧ (∀ j, j ≠ 3 → j ≠ 4 → r 1000 j = mr 1000 j) ∧ XT r (2000 + 20 * k) ∧ (∀ z, z ∈ D ↔ z ∈ dom ∨ (2000 + 20 * k ≤ z ∧ z < 2000 + 20 * k + 20)) ∧ m 1000 0 = 0 ∧ m 1000 6 = 0
theorem XM.ur {mr r : MR} (h : XM mr) (e : ∀ j, j ≠ 3 → j ≠ 4 → r 1000 j = mr 1000 j) : XM r := fun q hq => by
  have q1 := (show ∀ q ∈ fxM, q.1 = 1000 ∧ q.2.1 ≠ 3 ∧ q.2.1 ≠ 4 by decide) q hq
  rw [q1.1, e q.2.1 q1.2.1 q1.2.2]
  have := h q hq
  rw [q1.1] at this; exact this
section M12t
variable {G : GG} {post : PT} {mi : MI} {ml : ML} {mr : MR} {dom : List Nat} {M : Nat} {t : TW} {B : Nat → Nat} {n p : Nat}
theorem mx_townB {j : Nat} {x : Int32} (h6t : mi 1000 6 = nI j) (hb : x < 0 ∨ ¬ x ≤ nI j) (hp : post (some (.int (-1))) (rf mi (nI 2)) ml mr dom) : CT G 14 20 260 yX13_town cX13_town 3 (some .int) [.ref 1000, .int x] mi ml mr dom post := by
  refine enter 1 (by decide) rfl rfl (fun X => ?_)
  refine j_aload_n dX13_town_0 rfl rfl ?_
  refine j_iconst (v := nI 0) dX13_town_1 (by decide) ?_
  refine pI13_51 rfl dX13_town_2 ?_
  refine j_iload_n dX13_town_5 rfl rfl ?_
  refine j_if_lt (tgt := 17) dX13_town_6 (by decide) (fun h6_ => ?_) (fun h6_ => ?_)
  · refine j_aload_n dX13_town_17 rfl rfl ?_
    refine j_iconst (v := nI 2) dX13_town_18 (by decide) ?_
    refine cV13_57 (d1 := 1) rfl dX13_town_19 (by decide) (Nat.le_of_ble_eq_true rfl) ?_
    refine m_refused ?_
    refine j_iret rfl dX13_town_22 ?_
    exact hp
  · refine j_iload_n dX13_town_9 rfl rfl ?_
    refine j_aload_n dX13_town_10 rfl rfl ?_
    refine gI13_328 rfl dX13_town_11 ?_
    rw [up_ne _ _ (by decide), h6t]
    refine j_icmp_le (tgt := 23) dX13_town_14 (by decide) (fun h14 => ?_) (fun h14 => ?_)
    · exact (hb.elim (fun q => h6_ q) (fun q => q h14)).elim
    · refine j_aload_n dX13_town_17 rfl rfl ?_
      refine j_iconst (v := nI 2) dX13_town_18 (by decide) ?_
      refine cV13_57 (d1 := 1) rfl dX13_town_19 (by decide) (Nat.le_of_ble_eq_true rfl) ?_
      refine m_refused ?_
      refine j_iret rfl dX13_town_22 ?_
      exact hp
theorem mx_town {k j : Nat} (hX : XM mr) (hfr : ∀ z ∈ dom, z ∉ MB (2000 + 20 * k)) (h6t : mi 1000 6 = nI j) (hn : n ≤ j) (hj : j ≤ 1100) (ht : ∀ i, i < n → mi 1001 i = sx (B i) ∧ B i < 256)
  (hE : ∀ e, rdT B n = .inl e → ∀ m l r D, TQ k mi ml mr dom m l r D → m 1002 = mi 1002 → r 1000 3 = mr 1000 3 → m 1000 1 = nI 4 → m 1000 2 = nI e.2 → m 1000 13 = nI e.1 → (∀ j, 14 < j → m 1000 j = mi 1000 j) → post (some (.int (-1))) m l r D)
  (hO : ∀ s, rdT B n = .inr s → ∀ m l r D, TQ k mi ml mr dom m l r D → r 1000 3 = some (2000 + 20 * k) → RM m (2000 + 20 * k) (tf FwM s.2.2) → (∀ p, p < s.2.2 0 5 → m 1002 p = nI (s.2.2 5 p)) → (∀ g, g < s.2.2 0 6 → m 1002 (6 + g) = nI (s.2.2 9 g)) → m 1002 11 = nI 12 → m 1002 12 = nI 0 → m 1000 19 = nI 0 → m 1000 20 = nI 0 → m 1000 1 = 0 → m 1000 2 = -1 → m 1000 13 = 0 → (∀ j, 14 < j → (j ≠ 19 ∧ j ≠ 20) → m 1000 j = mi 1000 j) → post (some (.int (nI (s.2.2 0 5)))) m l r D) : CT G 14 20 260 yX13_town cX13_town 3 (some .int) [.ref 1000, .int (nI n)] mi ml mr dom post := by
  refine enter 1 (by decide) rfl rfl (fun X => ?_)
  refine j_aload_n dX13_town_0 rfl rfl ?_
  refine j_iconst (v := nI 0) dX13_town_1 (by decide) ?_
  refine pI13_51 rfl dX13_town_2 ?_
  refine j_iload_n dX13_town_5 rfl rfl ?_
  refine j_if_lt (tgt := 17) dX13_town_6 (by decide) (fun h6 => absurd h6 (nI_pos (by omega))) (fun h6 => ?_)
  refine j_iload_n dX13_town_9 rfl rfl ?_
  refine j_aload_n dX13_town_10 rfl rfl ?_
  refine gI13_328 rfl dX13_town_11 ?_
  rw [up_ne _ _ (by decide), h6t]
  refine j_icmp_le (tgt := 23) dX13_town_14 (by decide) (fun h14 => ?_) (fun h14 => by exfalso; rw [nI_leI (by omega) (by omega)] at h14; omega)
  refine j_aload_n dX13_town_23 rfl rfl ?_
  refine j_iload_n dX13_town_24 rfl rfl ?_
  refine pI13_64 rfl dX13_town_25 ?_
  refine j_aload_n dX13_town_28 rfl rfl ?_
  refine j_iconst (v := nI 0) dX13_town_29 (by decide) ?_
  refine pI13_328 rfl dX13_town_30 ?_
  refine j_aload_n dX13_town_33 rfl rfl ?_
  refine j_iconst (v := nI 0) dX13_town_34 (by decide) ?_
  refine pI13_82 rfl dX13_town_35 ?_
  refine j_aload_n dX13_town_38 rfl rfl ?_
  refine j_iconst (v := nI 0) dX13_town_39 (by decide) ?_
  refine pI13_108 rfl dX13_town_40 ?_
  refine j_aload_n dX13_town_43 rfl rfl ?_
  obtain ⟨m0, em0⟩ : ∃ m, m = up (up (up (up (up mi 1000 0 (nI 0)) 1000 7 (nI n)) 1000 6 (nI 0)) 1000 8 (nI 0)) 1000 13 (nI 0) := ⟨_, rfl⟩
  rw [← em0]
  have h0a : ∀ a, a ≠ 1000 → m0 a = mi a := fun a x => by rw [em0, up_off _ _ x, up_off _ _ x, up_off _ _ x, up_off _ _ x, up_off _ _ x]
  refine n13_162 (a := 2000 + 20 * k) (kdM k 0 (by decide)) dX13_town_44 (fun q => hfr _ q (by have := inMB (2000 + 20 * k) 0 (by decide); rw [Nat.add_zero] at this; exact this)) (by unfold lit; omega) (by decide) (by decide) ?_
  refine j_dup dX13_town_47 rfl ?_
  refine cI13_331 (d1 := 2) (mc1 := 19) (ms1 := 231) dX13_town_48 (by decide) (by decide) (by decide) (Nat.le_of_ble_eq_true rfl) ?_
  refine k_mtown hfr ?_
  obtain ⟨M, hMd⟩ : ∃ M, M = 2000 + 20 * k := ⟨_, rfl⟩
  have hM : MM M := ⟨k, hMd⟩
  have hge := hM.ge
  obtain ⟨m1, em1⟩ : ∃ m, m = clrs m0 (LMt k) := ⟨_, rfl⟩
  obtain ⟨l1, el1⟩ : ∃ m, m = clrsl ml (LMt k) := ⟨_, rfl⟩
  obtain ⟨r1, er1⟩ : ∃ m, m = rs mr (LMt k) (PMt k) := ⟨_, rfl⟩
  obtain ⟨D1, eD1⟩ : ∃ m, m = dom ++ LMt k := ⟨_, rfl⟩
  have hm1 : ∀ a, a < 2000 + 20 * k → m1 a = m0 a := fun a x => by rw [em1, clrs_o _ (fun q => by have := LMt_mem.mp q; omega)]
  have hl1 : ∀ a, a < 2000 + 20 * k → l1 a = ml a := fun a x => by rw [el1, clrsl_o _ (fun q => by have := LMt_mem.mp q; omega)]
  have hr1 : ∀ a, a < 2000 + 20 * k → r1 a = mr a := fun a x => by rw [er1, rs_o _ (fun q => by have := LMt_mem.mp q; omega) (fun q hq => by rw [PMt_fst q hq]; exact LMt_mem.mpr (by omega))]
  have hz1 : ∀ r j, r < 20 → m1 (2000 + 20 * k + r) j = 0 := fun r j x => by rw [em1]; exact if_pos (LMt_mem.mpr (by omega))
  have hY1 : XT r1 M := fun r h1 h2 => by rw [er1, hMd]; exact rs_in _ (PMt_get h1 h2)
  have hD1 : ∀ z, z ∈ D1 ↔ z ∈ dom ∨ (2000 + 20 * k ≤ z ∧ z < 2000 + 20 * k + 20) := fun z => by rw [eD1, List.mem_append, LMt_mem]
  have h1j : ∀ j, j ≠ 0 ∧ j ≠ 6 ∧ j ≠ 7 ∧ j ≠ 8 ∧ j ≠ 13 → m1 1000 j = mi 1000 j := fun j x => by rw [hm1 1000 (by omega), em0, up_ne _ _ (by omega), up_ne _ _ (by omega), up_ne _ _ (by omega), up_ne _ _ (by omega), up_ne _ _ (by omega)]
  have h10 : m1 1000 0 = 0 := by rw [hm1 1000 (by omega), em0]; rfl
  have h16 : m1 1000 6 = 0 := by rw [hm1 1000 (by omega), em0]; rfl
  have h17 : m1 1000 7 = nI n := by rw [hm1 1000 (by omega), em0]; rfl
  have h18 : m1 1000 8 = nI 0 := by rw [hm1 1000 (by omega), em0]; rfl
  have h113 : m1 1000 13 = nI 0 := by rw [hm1 1000 (by omega), em0]; rfl
  show J cX13_town 3 yX13_town.cls yX13_town.name (some .int) 14 G X post 0 0 (clrs m0 (LMt k)) (clrsl ml (LMt k)) (rs mr (LMt k) (PMt k)) (dom ++ LMt k) 51 [some (.ref 1000), some (.int (nI n)), none] [.ref (2000 + 20 * k), .ref 1000]
  rw [← em1, ← el1, ← er1, ← eD1, ← hMd]
  clear em1 el1 eD1
  refine pR13_157 rfl dX13_town_51 ?_
  obtain ⟨r4, er4⟩ : ∃ r, r = upr r1 1000 4 (some M) := ⟨_, rfl⟩
  rw [← er4]
  have hr4 : ∀ a, a ≠ 1000 → a < 2000 + 20 * k → r4 a = mr a := fun a x y => by rw [er4, upr_off _ _ x]; exact hr1 a y
  have hrj4 : ∀ j, j ≠ 3 → j ≠ 4 → r4 1000 j = mr 1000 j := fun j x y => by rw [er4, upr_ne _ _ y, hr1 1000 (by omega)]
  have hY4 : XT r4 M := fun r h1 h2 => by rw [er4, upr_off _ _ (by omega)]; exact hY1 r h1 h2
  have hRd4 : r4 1000 4 = some M := by rw [er4, upr_at]
  have hX4 : XM r4 := hX.ur hrj4
  refine j_aload_n dX13_town_54 rfl rfl ?_
  refine j_iconst (v := nI 0) dX13_town_55 (by decide) ?_
  refine pI13_79 rfl dX13_town_56 ?_
  obtain ⟨m2, em2⟩ : ∃ m, m = up m1 1000 9 (nI 0) := ⟨_, rfl⟩
  rw [← em2]
  have hm2 : ∀ a, a ≠ 1000 → m2 a = m1 a := fun a x => by rw [em2, up_off _ _ x]
  have hm2j : ∀ j, j ≠ 9 → m2 1000 j = m1 1000 j := fun j x => by rw [em2, up_ne _ _ x]
  refine j_aload_n dX13_town_59 rfl rfl ?_
  refine cV13_118 (d1 := 2) rfl dX13_town_60 (by decide) (Nat.le_of_ble_eq_true rfl) ?_
  have hB2 : RBM m2 B n := ⟨by rw [hm2j 7 (by decide)]; exact h17, by omega, by rw [hm2 1001 (by decide), hm1 1001 (by omega), h0a 1001 (by decide)]; exact ht⟩
  refine m_goesN (p := 0) (s := 0) hX4 hB2 (by rw [hm2j 8 (by decide)]; exact h18) (Nat.zero_le _) (by rw [em2, up_at]) (by decide) (fun m3' l3' f2 tk2 => ?_)
  have FGj : ∀ j, j < 8 ∨ 12 < j → m3' 1000 j = m1 1000 j := fun j x => by rw [f2.2.2 j x, hm2j j (by omega)]
  have hz3 : MZ m3' l3' B n (.inr 0) := ⟨Nat.zero_le _, tk2, by rw [FGj 13 (by omega)]; exact h113⟩
  have hR3 : RM m3' M t00 := by
    refine ⟨fun i hi => ?_, fun r h1 h2 i hi => ?_⟩
    · rw [f2.1 M (by omega), hm2 M (by omega)]; have := hz1 0 i (by decide); rw [Nat.add_zero, ← hMd] at this; rw [this]; rfl
    · rw [f2.1 (M + r) (by omega), hm2 (M + r) (by omega), hMd, hz1 r i (by omega)]; rfl
  have hN3 : RNM m3' l3' M n00 := ⟨by decide, by rw [f2.1 M (by omega), hm2 M (by omega)]; have := hz1 0 9 (by decide); rw [Nat.add_zero, ← hMd] at this; rw [this]; rfl, fun k hk => absurd hk (Nat.not_lt_zero _)⟩
  refine j_aload_n dX13_town_63 rfl rfl ?_
  refine cV13_332 (d1 := 13) rfl dX13_town_64 (by decide) (Nat.le_of_ble_eq_true rfl) ?_
  refine m_readAll hX4 hM hY4 hRd4 (hB2.fg f2) hR3 hN3 hz3 (fun m3 l3 F3 hE3 hO3 => ?_)
  rcases hs : rdT B n with e | s
  · have zz := hE3 e hs
    have he := eo_rd n (0, n00, t00) e hs
    refine j_aload_n dX13_town_67 rfl rfl ?_
    refine gI13_108 rfl dX13_town_68 ?_
    rw [zz.2.1]
    refine j_if_le (tgt := 89) dX13_town_71 (by decide) (fun h71 => by exfalso; rw [show (0 : Int32) = nI 0 from rfl, nI_leI (by have := he.1; have := he.2; omega) (by decide)] at h71; have := he.1; have := he.2; omega) (fun h71 => ?_)
    refine j_aload_n dX13_town_74 rfl rfl ?_
    refine j_iconst (v := nI 4) dX13_town_75 (by decide) ?_
    refine pI13_54 rfl dX13_town_76 ?_
    refine j_aload_n dX13_town_79 rfl rfl ?_
    refine j_aload_n dX13_town_80 rfl rfl ?_
    refine gI13_111 rfl dX13_town_81 ?_
    rw [up_ne _ _ (by decide), zz.2.2]
    refine pI13_9 rfl dX13_town_84 ?_
    refine j_iconst (v := -1) dX13_town_87 (by decide) ?_
    refine j_iret rfl dX13_town_88 ?_
    refine hE e hs _ l3 r4 D1 ⟨fun a x y z => ?_, fun a x y => ?_, hr4, hrj4, by rw [← hMd]; exact hY4, hD1, ?_, ?_⟩ ?_ ?_ ?_ ?_ ?_ ?_
    · rw [up_off _ _ x, up_off _ _ x, F3.1 a x (by omega), f2.1 a x, hm2 a x, hm1 a z, h0a a x]
    · rw [F3.2.1 a x (by omega), f2.2.1 a x, hl1 a y]
    · rw [up_ne _ _ (by decide), up_ne _ _ (by decide), F3.2.2 0 (by omega), FGj 0 (by omega), h10]
    · rw [up_ne _ _ (by decide), up_ne _ _ (by decide), F3.2.2 6 (by omega), FGj 6 (by omega), h16]
    · rw [up_off _ _ (by decide), up_off _ _ (by decide), F3.1 1002 (by decide) (by omega), f2.1 1002 (by decide), hm2 1002 (by decide), hm1 1002 (by omega), h0a 1002 (by decide)]
    · rw [er4, upr_ne _ _ (by decide), hr1 1000 (by omega)]
    · rw [up_ne _ _ (by decide), up_at]
    · rw [up_at]
    · rw [up_ne _ _ (by decide), up_ne _ _ (by decide), zz.2.1]
    · intro j x
      rw [up_ne _ _ (by omega), up_ne _ _ (by omega), F3.2.2 j (by omega), FGj j (by omega), h1j j (by omega)]
  · obtain ⟨zz, rr, -⟩ := hO3 s hs
    obtain ⟨hW3, hLT3, hg3⟩ := rdT_ok hs
    refine j_aload_n dX13_town_67 rfl rfl ?_
    refine gI13_108 rfl dX13_town_68 ?_
    rw [zz.2.2]
    refine j_if_le (tgt := 89) dX13_town_71 (by decide) (fun h71 => ?_) (fun h71 => absurd (by decide) h71)
    refine j_aload_n dX13_town_89 rfl rfl ?_
    refine j_aload_n dX13_town_90 rfl rfl ?_
    refine gR13_157 rfl dX13_town_91 hRd4 ?_
    refine pR13_335 rfl dX13_town_94 ?_
    refine j_aload_n dX13_town_97 rfl rfl ?_
    refine gR13_335 rfl dX13_town_98 (upr_at _ _ _ _) ?_
    refine cV13_337 (d1 := 1) (kM0 hM) dX13_town_101 (by decide) (Nat.le_of_ble_eq_true rfl) ?_
    refine m_joins hM (fun r h1 h2 => by rw [upr_off _ _ (by omega)]; exact hY4 r h1 h2) hg3 hW3 rr (fun m5 hm5 hf5 => ?_)
    obtain ⟨t5, et5⟩ : ∃ t5, t5 = (tf FwM s.2.2) := ⟨_, rfl⟩
    have hW5 : WT t5 := by rw [et5]; exact hW3.tf FwM
    have w5 := hW5.1
    have hg5 : GB t5 := by
      intro r i; rw [et5]; unfold tf; split
      · exact fwM_le hW3.2.2.1 _ i
      · exact hg3 r i
    have hR5 : RM m5 M t5 := by
      rw [et5]
      refine ⟨fun i hi => ?_, fun r h1 h2 i hi => ?_⟩
      · rw [hm5 M (by omega), tf_o _ _ (by decide)]; exact rr.1 i hi
      · by_cases q : r = 3
        · subst q; rw [tf_3]; exact hf5 i hi
        · rw [hm5 (M + r) (by omega), tf_o _ _ q]; exact rr.2 r h1 h2 i hi
    have h50 : m5 1000 0 = 0 := by rw [hm5 1000 (by omega), F3.2.2 0 (by omega), FGj 0 (by omega), h10]
    have h56 : m5 1000 6 = 0 := by rw [hm5 1000 (by omega), F3.2.2 6 (by omega), FGj 6 (by omega), h16]
    have h513 : m5 1000 13 = 0 := by rw [hm5 1000 (by omega)]; exact zz.2.2
    have h5j : ∀ j, 14 < j → (j ≠ 19 ∧ j ≠ 20) → m5 1000 j = mi 1000 j := fun j x y => by rw [hm5 1000 (by omega), F3.2.2 j (by omega), FGj j (by omega), h1j j (by omega)]
    have ha5 : ∀ a, a ≠ 1000 → a ≠ 1002 → a < 2000 + 20 * k → m5 a = mi a := fun a x y z => by rw [hm5 a (by omega), F3.1 a x (by omega), f2.1 a x, hm2 a x, hm1 a z, h0a a x]
    obtain ⟨r5, er5⟩ : ∃ r, r = upr r4 1000 3 (some M) := ⟨_, rfl⟩
    rw [← er5]
    have hr5 : ∀ a, a ≠ 1000 → a < 2000 + 20 * k → r5 a = mr a := fun a x y => by rw [er5, upr_off _ _ x]; exact hr4 a x y
    have hrj5 : ∀ j, j ≠ 3 → j ≠ 4 → r5 1000 j = mr 1000 j := fun j x y => by rw [er5, upr_ne _ _ x]; exact hrj4 j x y
    have hY5 : XT r5 (2000 + 20 * k) := fun r h1 h2 => by rw [er5, upr_off _ _ (by omega), ← hMd]; exact hY4 r h1 h2
    have hTn5 : r5 1000 3 = some M := by rw [er5, upr_at]
    have hX5 : XM r5 := hX.ur hrj5
    have hl5 : ∀ a, a ≠ 1000 → a < 2000 + 20 * k → l3 a = ml a := fun a x y => by rw [F3.2.1 a x (by omega), f2.2.1 a x, hl1 a y]
    obtain ⟨l5, el5⟩ : ∃ l, l = l3 := ⟨_, rfl⟩
    obtain ⟨D5, eD5⟩ : ∃ D, D = D1 := ⟨_, rfl⟩
    rw [← el5, ← eD5]
    rw [← el5] at hl5
    have hD5 := hD1
    rw [← eD5] at hD5
    have hY5 : XT r5 M := by rw [hMd]; exact hY5
    have key1 : ∀ m : MI, off1 1002 m m5 → (∀ p, p < 0 → p < t5 0 5 → m 1002 p = nI (t5 5 p)) → J cX13_town 3 yX13_town.cls yX13_town.name (some .int) 14 G X post 0 0 m l5 r5 D5 106 [some (.ref 1000), some (.int (nI n)), some (.int (nI 0))] [] := by
      refine lq (n := 6) (H := fun i => ∀ m : MI, off1 1002 m m5 → (∀ p, p < i → p < t5 0 5 → m 1002 p = nI (t5 5 p)) → J cX13_town 3 yX13_town.cls yX13_town.name (some .int) 14 G X post 0 0 m l5 r5 D5 106 [some (.ref 1000), some (.int (nI n)), some (.int (nI i))] []) (fun m hm hv => ?_) (fun i hi ih m hm hv => ?_)
      · skip
        refine j_iload_n dX13_town_106 rfl rfl ?_
        refine j_bipush (v := nI 6) dX13_town_107 (by decide) ?_
        refine j_icmp_ge (tgt := 151) dX13_town_109 (by decide) (fun h109 => ?_) (fun h109 => by exfalso; rw [nI_leI (by omega) (by omega)] at h109; omega)
        refine j_iconst (v := nI 0) dX13_town_151 (by decide) ?_
        refine j_istore_n (lv2 := [_, _, _]) dX13_town_152 rfl (by decide) rfl rfl ?_
        have key2 : ∀ m : MI, off1 1002 m m5 → (∀ p, p < 6 → p < t5 0 5 → m 1002 p = nI (t5 5 p)) → (∀ g, g < 0 → g < t5 0 6 → m 1002 (6 + g) = nI (t5 9 g)) → J cX13_town 3 yX13_town.cls yX13_town.name (some .int) 14 G X post 0 0 m l5 r5 D5 153 [some (.ref 1000), some (.int (nI n)), some (.int (nI 0))] [] := by
          refine lq (n := 5) (H := fun i => ∀ m : MI, off1 1002 m m5 → (∀ p, p < 6 → p < t5 0 5 → m 1002 p = nI (t5 5 p)) → (∀ g, g < i → g < t5 0 6 → m 1002 (6 + g) = nI (t5 9 g)) → J cX13_town 3 yX13_town.cls yX13_town.name (some .int) 14 G X post 0 0 m l5 r5 D5 153 [some (.ref 1000), some (.int (nI n)), some (.int (nI i))] []) (fun m hm hv hu => ?_) (fun i hi ih m hm hv hu => ?_)
          · skip
            refine j_iload_n dX13_town_153 rfl rfl ?_
            refine j_iconst (v := nI 5) dX13_town_154 (by decide) ?_
            refine j_icmp_ge (tgt := 198) dX13_town_155 (by decide) (fun h155 => ?_) (fun h155 => by exfalso; rw [nI_leI (by omega) (by omega)] at h155; omega)
            refine j_aload_n dX13_town_198 rfl rfl ?_
            refine gR13_17 rfl dX13_town_199 (x1002 hX5) ?_
            refine j_bipush (v := nI 11) dX13_town_202 (by decide) ?_
            refine j_bipush (v := nI 12) dX13_town_204 (by decide) ?_
            refine j_iast rfl (inT (show ln 1002 = 13 from rfl) (by show 11 < 13; omega) (by decide)) dX13_town_206 ?_
            rw [nI_clamp (by omega)]
            refine j_aload_n dX13_town_207 rfl rfl ?_
            refine gR13_17 rfl dX13_town_208 (x1002 hX5) ?_
            refine j_bipush (v := nI 12) dX13_town_211 (by decide) ?_
            refine j_iconst (v := nI 0) dX13_town_213 (by decide) ?_
            refine j_iast rfl (inT (show ln 1002 = 13 from rfl) (by show 12 < 13; omega) (by decide)) dX13_town_214 ?_
            rw [nI_clamp (by omega)]
            refine j_aload_n dX13_town_215 rfl rfl ?_
            refine j_iconst (v := nI 0) dX13_town_216 (by decide) ?_
            refine pI13_340 rfl dX13_town_217 ?_
            refine j_aload_n dX13_town_220 rfl rfl ?_
            refine j_iconst (v := nI 0) dX13_town_221 (by decide) ?_
            refine pI13_343 rfl dX13_town_222 ?_
            refine j_aload_n dX13_town_225 rfl rfl ?_
            refine j_aload_n dX13_town_226 rfl rfl ?_
            refine gR13_335 rfl dX13_town_227 hTn5 ?_
            refine gI13_199 (kM0 hM) dX13_town_230 ?_
            rw [up_off _ _ (by omega), up_off _ _ (by omega), up_off _ _ (by omega), up_off _ _ (by omega), hm M (by omega), hR5.1 5 (by decide)]
            refine cV13_61 (d1 := 1) rfl dX13_town_233 (by decide) (Nat.le_of_ble_eq_true rfl) ?_
            refine m_fair ?_
            refine j_iret rfl dX13_town_236 ?_
            subst et5
            subst hMd
            refine hO s hs _ l5 r5 D5 ⟨fun a x y z => ?_, hl5, hr5, hrj5, hY5, hD5, ?_, ?_⟩ ?_ ?_ ?_ ?_ ?_ ?_ ?_ ?_ ?_ ?_ ?_ ?_
            · rw [up_off _ _ x, up_off _ _ x, up_off _ _ x, up_off _ _ x, up_off _ _ y, up_off _ _ y, hm a y]; exact ha5 a x y z
            · rw [up_ne _ _ (by decide), up_ne _ _ (by decide), up_ne _ _ (by decide), up_ne _ _ (by decide), up_off _ _ (by decide), up_off _ _ (by decide), hm 1000 (by decide)]; exact h50
            · rw [up_ne _ _ (by decide), up_ne _ _ (by decide), up_ne _ _ (by decide), up_ne _ _ (by decide), up_off _ _ (by decide), up_off _ _ (by decide), hm 1000 (by decide)]; exact h56
            · exact hTn5
            · refine RM_off (fun j hj => ?_) hR5
              rw [up_off _ _ (by omega), up_off _ _ (by omega), up_off _ _ (by omega), up_off _ _ (by omega), up_off _ _ (by omega), up_off _ _ (by omega), hm _ (by omega)]
            · intro p hp1
              rw [up_off _ _ (by decide), up_off _ _ (by decide), up_off _ _ (by decide), up_off _ _ (by decide), up_ne _ _ (by have := hW3.1; omega), up_ne _ _ (by have := hW3.1; omega)]
              exact hv p (by have := hW3.1; omega) hp1
            · intro g hg1
              rw [up_off _ _ (by decide), up_off _ _ (by decide), up_off _ _ (by decide), up_off _ _ (by decide), up_ne _ _ (by have := hW3.1; omega), up_ne _ _ (by have := hW3.1; omega)]
              exact hu g (by have := hW3.1; omega) hg1
            · rw [up_off _ _ (by decide), up_off _ _ (by decide), up_off _ _ (by decide), up_off _ _ (by decide), up_ne _ _ (by decide), up_at]
            · rw [up_off _ _ (by decide), up_off _ _ (by decide), up_off _ _ (by decide), up_off _ _ (by decide), up_at]
            · rw [up_ne _ _ (by decide), up_ne _ _ (by decide), up_ne _ _ (by decide), up_at]
            · rw [up_ne _ _ (by decide), up_ne _ _ (by decide), up_at]
            · rw [up_ne _ _ (by decide), up_at]
            · rw [up_at]
            · rw [up_ne _ _ (by decide), up_ne _ _ (by decide), up_ne _ _ (by decide), up_ne _ _ (by decide), up_off _ _ (by decide), up_off _ _ (by decide), hm 1000 (by decide)]; exact h513
            · intro j x y
              rw [up_ne _ _ (by omega), up_ne _ _ (by omega), up_ne _ _ (by omega), up_ne _ _ (by omega), up_off _ _ (by decide), up_off _ _ (by decide), hm 1000 (by decide)]; exact h5j j x y
          · skip
            refine j_iload_n dX13_town_153 rfl rfl ?_
            refine j_iconst (v := nI 5) dX13_town_154 (by decide) ?_
            refine j_icmp_ge (tgt := 198) dX13_town_155 (by decide) (fun h155 => by exfalso; rw [nI_leI (by omega) (by omega)] at h155; omega) (fun h155 => ?_)
            refine j_aload_n dX13_town_158 rfl rfl ?_
            refine gR13_17 rfl dX13_town_159 (x1002 hX5) ?_
            refine j_bipush (v := nI 6) dX13_town_162 (by decide) ?_
            refine j_iload_n dX13_town_164 rfl rfl ?_
            refine j_iadd dX13_town_165 ?_
            rw [nI_add]
            refine j_iload_n dX13_town_166 rfl rfl ?_
            refine j_aload_n dX13_town_167 rfl rfl ?_
            refine gR13_335 rfl dX13_town_168 hTn5 ?_
            refine gI13_288 (kM0 hM) dX13_town_171 ?_
            rw [hm M (by omega), hR5.1 6 (by decide)]
            refine j_icmp_ge (tgt := 189) dX13_town_174 (by decide) (fun h174 => ?_) (fun h174 => ?_)
            all_goals rw [nI_leI (by have := hg5 0 6; omega) (by omega)] at h174
            · refine j_bipush (v := -2) dX13_town_189 (by decide) ?_
              refine j_iast rfl (inT (show ln 1002 = 13 from rfl) (by show 6 + i < 13; omega) (by decide)) dX13_town_191 ?_
              rw [nI_clamp (by omega)]
              refine j_iinc1 (lv2 := [_, _, _]) dX13_town_192 rfl (by decide) rfl rfl ?_
              rw [nI_1]
              refine j_goto (tgt := 153) dX13_town_195 (by decide) ?_
              refine ih _ (fun z hz => by rw [up_off _ _ hz]; exact hm z hz) (fun p hp1 hp2 => ?_) (fun g hg1 hg2 => ?_)
              · rw [up_ne _ _ (by omega)]; exact hv p hp1 hp2
              by_cases q : g = i
              · subst q; first | (rw [up_at]; done) | (exfalso; omega)
              · rw [up_ne _ _ (by omega)]; exact hu g (by omega) hg2
            · refine j_aload_n dX13_town_177 rfl rfl ?_
              refine gR13_335 rfl dX13_town_178 hTn5 ?_
              refine gR13_298 (kM0 hM) dX13_town_181 (xM9 hY5) ?_
              refine j_iload_n dX13_town_184 rfl rfl ?_
              refine j_iald (kM9 hM) (inT (lM9 hM) (by show i < 5; omega) (by decide)) dX13_town_185 ?_
              rw [nI_clamp (by omega), hm (M + 9) (by omega), rM9 hR5 (by show i < 5; omega)]
              refine j_goto (tgt := 191) dX13_town_186 (by decide) ?_
              refine j_iast rfl (inT (show ln 1002 = 13 from rfl) (by show 6 + i < 13; omega) (by decide)) dX13_town_191 ?_
              rw [nI_clamp (by omega)]
              refine j_iinc1 (lv2 := [_, _, _]) dX13_town_192 rfl (by decide) rfl rfl ?_
              rw [nI_1]
              refine j_goto (tgt := 153) dX13_town_195 (by decide) ?_
              refine ih _ (fun z hz => by rw [up_off _ _ hz]; exact hm z hz) (fun p hp1 hp2 => ?_) (fun g hg1 hg2 => ?_)
              · rw [up_ne _ _ (by omega)]; exact hv p hp1 hp2
              by_cases q : g = i
              · subst q; first | (rw [up_at]; done) | (exfalso; omega)
              · rw [up_ne _ _ (by omega)]; exact hu g (by omega) hg2
        exact key2 m hm hv (fun g hg => absurd hg (by omega))
      · skip
        refine j_iload_n dX13_town_106 rfl rfl ?_
        refine j_bipush (v := nI 6) dX13_town_107 (by decide) ?_
        refine j_icmp_ge (tgt := 151) dX13_town_109 (by decide) (fun h109 => by exfalso; rw [nI_leI (by omega) (by omega)] at h109; omega) (fun h109 => ?_)
        refine j_aload_n dX13_town_112 rfl rfl ?_
        refine gR13_17 rfl dX13_town_113 (x1002 hX5) ?_
        refine j_iconst (v := nI 0) dX13_town_116 (by decide) ?_
        refine j_iload_n dX13_town_117 rfl rfl ?_
        refine j_iadd dX13_town_118 ?_
        rw [show nI 0 + nI i = nI i by rw [nI_add, Nat.zero_add]]
        refine j_iload_n dX13_town_119 rfl rfl ?_
        refine j_aload_n dX13_town_120 rfl rfl ?_
        refine gR13_335 rfl dX13_town_121 hTn5 ?_
        refine gI13_199 (kM0 hM) dX13_town_124 ?_
        rw [hm M (by omega), hR5.1 5 (by decide)]
        refine j_icmp_ge (tgt := 142) dX13_town_127 (by decide) (fun h127 => ?_) (fun h127 => ?_)
        all_goals rw [nI_leI (by have := hg5 0 5; omega) (by omega)] at h127
        · refine j_bipush (v := -2) dX13_town_142 (by decide) ?_
          refine j_iast rfl (inT (show ln 1002 = 13 from rfl) (by show i < 13; omega) (by decide)) dX13_town_144 ?_
          rw [nI_clamp (by omega)]
          refine j_iinc1 (lv2 := [_, _, _]) dX13_town_145 rfl (by decide) rfl rfl ?_
          rw [nI_1]
          refine j_goto (tgt := 106) dX13_town_148 (by decide) ?_
          refine ih _ (fun z hz => by rw [up_off _ _ hz]; exact hm z hz) (fun p hp1 hp2 => ?_)
          by_cases q : p = i
          · subst q; first | (rw [up_at]; done) | (exfalso; omega)
          · rw [up_ne _ _ q]; exact hv p (by omega) hp2
        · refine j_aload_n dX13_town_130 rfl rfl ?_
          refine gR13_335 rfl dX13_town_131 hTn5 ?_
          refine gR13_281 (kM0 hM) dX13_town_134 (xM5 hY5) ?_
          refine j_iload_n dX13_town_137 rfl rfl ?_
          refine j_iald (kM5 hM) (inT (lM5 hM) (by show i < 6; omega) (by decide)) dX13_town_138 ?_
          rw [nI_clamp (by omega), hm (M + 5) (by omega), rM5 hR5 (by show i < 6; omega)]
          refine j_goto (tgt := 144) dX13_town_139 (by decide) ?_
          refine j_iast rfl (inT (show ln 1002 = 13 from rfl) (by show i < 13; omega) (by decide)) dX13_town_144 ?_
          rw [nI_clamp (by omega)]
          refine j_iinc1 (lv2 := [_, _, _]) dX13_town_145 rfl (by decide) rfl rfl ?_
          rw [nI_1]
          refine j_goto (tgt := 106) dX13_town_148 (by decide) ?_
          refine ih _ (fun z hz => by rw [up_off _ _ hz]; exact hm z hz) (fun p hp1 hp2 => ?_)
          by_cases q : p = i
          · subst q; first | (rw [up_at]; done) | (exfalso; omega)
          · rw [up_ne _ _ q]; exact hv p (by omega) hp2
    refine j_iconst (v := nI 0) dX13_town_104 (by decide) ?_
    refine j_istore_n (lv2 := [_, _, _]) dX13_town_105 rfl (by decide) rfl rfl ?_
    exact key1 m5 (fun _ _ => rfl) (fun p hp => absurd hp (by omega))
end M12t
