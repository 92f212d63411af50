/-! the law's calls, two and two: a town that is read -/
section DUO10
variable {G : GG} {c T T' M a w n k x y z : Nat} {t : TW} {v v' : Nat → Nat} {mi m m1 m2 : MI} {ml ml2 : ML} {mr : MR} {dom : List Nat} {e : Int32}
theorem ztO {B : Nat → Nat} {s : RS} {m' : MI} {l' : ML} {l : ML} {r : MR} {D : List Nat} (Z : ZZ c T T' t mi ml mr dom) (hs : rdT B n = .inr s)
    (c1 : ∀ a, a ≠ 0 → a ≠ 2 → a ≠ 6 → a ≠ 7 → a ≠ 8 → a ≠ 9 → (a < T' ∨ T' + 60 ≤ a) → m' a = mi a) (c2 : ∀ a, a ≠ 2 → a ≠ 5 → l' a = ml a) (c3 : m' 0 1 = 0) (c4 : m' 0 9 = 0) (c5 : m' 0 10 = 0) (c7 : RX m' T' (tf FwM s.2.2)) (c8 : m' T' 0 = 1) (c9 : m' 8 0 = 0) (c10 : m' 8 1 = 0) (c11 : ∀ j, j ≠ 0 → j ≠ 1 → m' 8 j = mi 8 j) (c12 : ∀ p, p < s.2.2 0 5 → m' 9 p = nI (s.2.2 5 p)) (c13 : ∀ g, g < s.2.2 0 6 → m' 9 (6 + g) = nI (s.2.2 9 g)) (c14 : m' 9 11 = 12) (c15 : m' 9 12 = 0)
    (tq : TQ c m' l' (upr (upr (upr mr 2 2 (some 1)) 0 3 (some T)) 0 2 (some T')) dom m l r D) (p1 : r 1000 3 = some (2000 + 20 * c)) (p2 : RM m (2000 + 20 * c) (tf FwM s.2.2)) (p3 : ∀ p, p < s.2.2 0 5 → m 1002 p = nI (s.2.2 5 p)) (p4 : ∀ g, g < s.2.2 0 6 → m 1002 (6 + g) = nI (s.2.2 9 g)) (p5 : m 1002 11 = nI 12) (p6 : m 1002 12 = nI 0) (p7 : m 1000 19 = nI 0) (p8 : m 1000 20 = nI 0) (p9 : m 1000 1 = 0) (p10 : m 1000 2 = -1) (p11 : m 1000 13 = 0) : ZZ (c + 1) T' T (tf FwM s.2.2) m l r D := by
  obtain ⟨⟨x1, x2, ⟨hT, hT', hne, hTn, hTs⟩, hW, hR, hk, hdm⟩, -, -, hC, ⟨a, w, a1, a2, a3, a4, a5, a6⟩, -, -⟩ := Z
  obtain ⟨t1, t2, t3, t4, t5, t6, t7, t8⟩ := tq
  obtain ⟨hWs, hLs, hGs⟩ := rdT_ok hs
  have b := hT.b
  have b' := hT'.b
  have hD : DS 99999 (s.2.2 2) (FwM s.2.2) := ds_M hWs hLs
  have lt : ∀ a, a < 1000 → m a = m' a := fun a ha => t1 a (by omega) (by omega) (by omega)
  have lo : ∀ a, 9 < a → a < 100 → m a = mi a := fun a ha hb => (lt a (by omega)).trans (c1 a (by omega) (by omega) (by omega) (by omega) (by omega) (by omega) (by omega))
  have hr0 : ∀ a, a < 1000 → r a = (upr (upr (upr mr 2 2 (some 1)) 0 3 (some T)) 0 2 (some T')) a := fun a ha => t3 a (by omega) (by omega)
  have hRX : RX m T' (tf FwM s.2.2) := RX_off2 (fun j j6 _ _ => lt _ (by omega)) (by rw [lt _ (by omega)]) c7 (hWs.tf FwM)
  have w1 := hWs
  obtain ⟨w0, -, -, wp, wg, -, -⟩ := w1
  refine ⟨⟨(((x1.u22 _).u03 _).u02 _).off hr0, x2.ur (fun j j3 j4 => (t4 j j3 j4).trans (by rw [upr_off _ _ (by decide), upr_off _ _ (by decide), upr_off _ _ (by decide)])), ⟨hT', hT, Ne.symm hne, by rw [hr0 0 (by decide), upr_at], by rw [hr0 0 (by decide), upr_ne _ _ (by decide), upr_at]⟩, hWs.tf FwM, hRX, fun k hk' => by rw [t2 4 (by decide) (by omega), c2 4 (by decide) (by decide)]; exact hk k hk', fun z hz => ?_⟩, ⟨by rw [p9, lt 0 (by decide), c4], by rw [p11, lt 0 (by decide), c5], by rw [p10, lt 0 (by decide), c4, if_neg (by decide)]⟩, ⟨0, by decide, by rw [lt 0 (by decide), c3]; rfl, by rw [t8]; rfl, fun i hi => absurd hi (Nat.not_lt_zero _)⟩, hC.kk (lo 15 (by decide) (by decide)) (lo 16 (by decide) (by decide)), ⟨0, w, ?_, p7, by decide, ?_, a5, fun j hj => absurd hj (Nat.not_lt_zero _)⟩, ⟨0, ?_, p8, by decide, fun j hj => absurd hj (Nat.not_lt_zero _)⟩, Or.inr ⟨c, fun i => if i < 6 then s.2.2 5 i else if i < 11 then s.2.2 9 (i - 6) else if i = 11 then 12 else 0, ?_, ?_, hLs.tf FwM, ?_, Nat.lt_succ_self c, p1, t5, p2, ?_⟩⟩
  · rcases (t6 z).mp hz with q | q
    · have := hdm z q; omega
    · omega
  · rw [lt 8 (by decide), c9]; rfl
  · rw [lt 8 (by decide), c11 4 (by decide) (by decide)]; exact a4
  · rw [lt 8 (by decide), c10]; rfl
  · rw [lt T' (by omega)]; exact c8
  · intro r i
    by_cases q : r = 3
    · subst q; rw [tf_3]; exact hD.2.1 i
    · rw [tf_o _ _ q]; exact hGs r i
  · exact hD
  · refine ⟨fun p hp => ?_, fun g hg => ?_, ⟨?_, p5, show 12 < 24 by decide⟩, ⟨?_, p6, Nat.zero_le _⟩⟩
    · have hp' : p < s.2.2 0 5 := hp
      rw [lt 9 (by decide), c12 p hp', p3 p hp']
      show _ = nI (if p < 6 then _ else _) ∧ _ = nI (if p < 6 then _ else _) ∧ (if p < 6 then _ else _) < _
      rw [if_pos (by omega)]
      exact ⟨rfl, rfl, (wp p hp').2.1⟩
    · have hg' : g < s.2.2 0 6 := hg
      rw [lt 9 (by decide), c13 g hg', p4 g hg']
      show _ = nI (if 6 + g < 6 then _ else if 6 + g < 11 then s.2.2 9 (6 + g - 6) else _) ∧ _ = nI (if 6 + g < 6 then _ else if 6 + g < 11 then s.2.2 9 (6 + g - 6) else _) ∧ (if 6 + g < 6 then _ else if 6 + g < 11 then s.2.2 9 (6 + g - 6) else _) < _
      rw [if_neg (by omega), if_pos (by omega), show 6 + g - 6 = g by omega]
      exact ⟨rfl, rfl, (wg g hg').2.2.1⟩
    · rw [lt 9 (by decide), c14]; rfl
    · rw [lt 9 (by decide), c15]; rfl
theorem du_town {a : Int32} (hZ : LAZ c mi ml mr dom) : ∀ K : PT, (∀ x mi1 ml1 mr1 dom1, (∀ K2 : PT, (∀ mi2 ml2 mr2 dom2, LAZ (c + 1) mi2 ml2 mr2 dom2 → K2 (some (.int x)) mi2 ml2 mr2 dom2) → CT G 14 20 260 yX13_town cX13_town 3 (some .int) [.ref 1000, .int a] mi1 ml1 mr1 dom1 K2) → K (some (.int x)) mi1 ml1 mr1 dom1) → CE G yX11_town cX11_town 3 (some .int) [.ref 0, .int a] mi ml mr dom K := by
  obtain ⟨T, T', t, Z⟩ := hZ
  intro K hK
  obtain ⟨q, q1, q2, q3, q4⟩ := Z.2.2.1
  have hT := Z.1.2.2.1.1
  have hT' := Z.1.2.2.1.2.1
  have b' := hT'.b
  have hdm := Z.1.2.2.2.2.2.2
  have bd : (a < 0 ∨ ¬ a ≤ nI q) ∨ ∃ n, n ≤ q ∧ a = nI n := by
    by_cases h0 : a < 0
    · exact Or.inl (Or.inl h0)
    · obtain ⟨j, hj, rfl⟩ := nI_of h0
      by_cases h1 : j ≤ q
      · exact Or.inr ⟨j, h1, rfl⟩
      · exact Or.inl (Or.inr (fun h => h1 ((nI_leI hj (by omega)).mp h)))
  rcases bd with hb | ⟨n, hn, rfl⟩
  · exact ⟨12, by decide, cx_townB q2 hb (hK _ _ _ _ _ (fun K2 h2 => mx_townB (j := q) (by rw [up_off _ _ (by decide)]; exact q3) hb (h2 _ _ _ _ ⟨_, _, _, zrf Z (fc9 hT _ 2) (up_at _ _ _ _) (by decide) (Z.c9 rfl rfl)⟩)))⟩
  · have hfr : ∀ z ∈ dom, z ∉ MB (2000 + 20 * c) := fun z hz => MB_lt (hdm z hz)
    refine ⟨12, by decide, cx_town (B := fun i => by8 (mi 1 i)) (F := FwM) Z.1.1 hT hT' Z.1.2.2.1.2.2.2.1 Z.1.2.2.1.2.2.2.2 q2 hn q1 (fun k hk => ⟨(q4 k (by omega)).2, by8_lt _⟩) Z.1.2.2.2.2.2.1 hFM ?_ ?_⟩
    · intro e he m' l' c1 c2 c3 c4 c5 c6
      have e1 : m' 1000 = mi 1000 := c1 1000 (by decide) (by decide) (by decide) (by decide) (by omega)
      have e2 : m' 1001 = mi 1001 := c1 1001 (by decide) (by decide) (by decide) (by decide) (by omega)
      refine hK _ _ _ _ _ (fun K2 h2 => mx_town (B := fun i => by8 (mi 1 i)) (k := c) (j := q) (Z.1.2.1.ur (fun j _ _ => by rw [upr_off _ _ (by decide)])) hfr (by rw [e1]; exact q3) hn q1 (fun i hi => by rw [e2, (q4 i (by omega)).1]; exact ⟨(q4 i (by omega)).2, by8_lt _⟩) ?_ ?_)
      · intro e' he' m l r D tq g1 g2 g3 g4 g5 g6
        have ee : e' = e := Sum.inl.inj (he'.symm.trans he)
        subst ee
        exact h2 _ _ _ _ ⟨T, T', t, ztE Z c1 c2 c3 c4 c5 c6 tq g1 g2 g3 g4 g5 g6⟩
      · intro s hs
        exact absurd (he.symm.trans hs) (fun q => by cases q)
    · intro s hs m' l' c1 c2 c3 c4 c5 _ c7 c8 c9 c10 c11 c12 c13 c14 c15
      have e1 : m' 1000 = mi 1000 := c1 1000 (by decide) (by decide) (by decide) (by decide) (by decide) (by decide) (by omega)
      have e2 : m' 1001 = mi 1001 := c1 1001 (by decide) (by decide) (by decide) (by decide) (by decide) (by decide) (by omega)
      refine hK _ _ _ _ _ (fun K2 h2 => mx_town (B := fun i => by8 (mi 1 i)) (k := c) (j := q) (Z.1.2.1.ur (fun j _ _ => by rw [upr_off _ _ (by decide), upr_off _ _ (by decide), upr_off _ _ (by decide)])) hfr (by rw [e1]; exact q3) hn q1 (fun i hi => by rw [e2, (q4 i (by omega)).1]; exact ⟨(q4 i (by omega)).2, by8_lt _⟩) ?_ ?_)
      · intro e' he'
        exact absurd (hs.symm.trans he') (fun q => by cases q)
      · intro s' hs' m l r D tq g1 g2 g3 g4 g5 g6 g7 g8 g9 g10 g11 _
        have ee : s' = s := Sum.inr.inj (hs'.symm.trans hs)
        subst ee
        exact h2 _ _ _ _ ⟨T', T, tf FwM s'.2.2, ztO Z hs c1 c2 c3 c4 c5 c7 c8 c9 c10 c11 c12 c13 c14 c15 tq g1 g2 g3 g4 g5 g6 g7 g8 g9 g10 g11⟩
end DUO10
