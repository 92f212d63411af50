/-! the law's calls, two and two: acts -/
section DUO6
variable {G : GG} {c T T' M a w n : Nat} {t : TW} {v v' : Nat → Nat} {mi m m1 m2 : MI} {ml ml2 : ML} {mr : MR} {dom : List Nat} {e : Int32}
theorem zmk (Z : ZZ c T T' t mi ml mr dom) (C : TC c T M t v mi mr) (hlo : ∀ n, n ≠ 0 → n ≠ 8 → n ≠ 9 → n ≠ 10 → n ≠ 11 → n < 1000 → m2 n = mi n) (h0 : ∀ j, j ≠ 9 → m2 0 j = mi 0 j) (h09 : m2 0 9 = 0)
    (hhi : ∀ n, 1000 < n → n ≠ 1002 → n ≠ 1003 → n ≠ 1004 → m2 n = mi n) (hm : ∀ j, j ≠ 0 → j ≠ 1 → j ≠ 2 → j ≠ 19 → j ≠ 20 → m2 1000 j = mi 1000 j) (h1 : m2 1000 1 = 0) (h2 : m2 1000 2 = -1)
    (hS : SV (c + 1) t (m2 9) (m2 1002) v') (hA : ∃ a w, zA (c + 1) t m2 a w) (hI : ∃ n, zI (c + 1) t m2 n) : ZZ (c + 1) T T' t m2 ml mr dom := by
  obtain ⟨⟨x1, x2, ⟨hT, hT', hne, hTn, hTs⟩, hW, hR, hk, hdm⟩, ⟨y1, y2, y3⟩, ⟨q, q1, q2, q3, q4⟩, hC, -, -, hud⟩ := Z
  have b := hT.b
  have hRX : RX m2 T t := RX_off2 (fun j j6 _ _ => hlo _ (by omega) (by omega) (by omega) (by omega) (by omega) (by omega)) (by rw [hlo _ (by omega) (by omega) (by omega) (by omega) (by omega) (by omega)]) hR hW
  refine ⟨⟨x1, x2, ⟨hT, hT', hne, hTn, hTs⟩, hW, hRX, hk, fun z hz => by have := hdm z hz; omega⟩, ⟨h1.trans h09.symm, ?_, ?_⟩, ⟨q, q1, ?_, ?_, fun i hi' => ?_⟩, hC.kk (hlo 15 (by decide) (by decide) (by decide) (by decide) (by decide) (by decide)) (hlo 16 (by decide) (by decide) (by decide) (by decide) (by decide) (by decide)), hA, hI, ?_⟩
  · rw [hm 13 (by decide) (by decide) (by decide) (by decide) (by decide), h0 10 (by decide)]; exact y2
  · rw [h09, if_neg (by decide)]; exact h2
  · rw [h0 1 (by decide)]; exact q2
  · rw [hm 6 (by decide) (by decide) (by decide) (by decide) (by decide)]; exact q3
  · rw [hhi 1001 (by decide) (by decide) (by decide) (by decide), hlo 1 (by decide) (by decide) (by decide) (by decide) (by decide) (by decide)]; exact q4 i hi'
  · have t0 : m2 T = mi T := hlo T (by omega) (by omega) (by omega) (by omega) (by omega) (by omega)
    rcases hud with ⟨u1, -⟩ | ⟨k, v, d1, d2, d3, d4, d5, d6, d7, d8, d9⟩
    · exact absurd (u1.symm.trans C.h0) (by decide)
    · exact Or.inr ⟨k, v', by rw [t0]; exact d1, d2, d3, d4, by omega, d6, d7, RM_off (fun j _ => hhi _ (by omega) (by omega) (by omega) (by omega)) d8, hS⟩
theorem SV.cg {f g f' g' : Nat → Int32} (h : SV c t f g v) (hW : WT t) (e1 : ∀ i, i < 13 → f' i = f i) (e2 : ∀ i, i < 13 → g' i = g i) : SV c t f' g' v := by
  have w := hW.1
  refine ⟨fun p hp => ?_, fun k hk => ?_, ⟨?_, ?_, h.2.2.1.2.2⟩, ⟨?_, ?_, h.2.2.2.2.2⟩⟩
  · rw [e1 p (by omega), e2 p (by omega)]; exact h.1 p hp
  · rw [e1 (6 + k) (by omega), e2 (6 + k) (by omega)]; exact h.2.1 k hk
  · rw [e1 11 (by decide)]; exact h.2.2.1.1
  · rw [e2 11 (by decide)]; exact h.2.2.1.2.1
  · rw [e1 12 (by decide)]; exact h.2.2.2.1
  · rw [e2 12 (by decide)]; exact h.2.2.2.2.1
/-- what the class's acts write, their row of the present aside -/
def AC (w a : Nat) (mi m : MI) : Prop := (∀ n, n ≠ 0 → n ≠ 8 → n ≠ 9 → n ≠ 10 → m n = mi n) ∧ (m 8 4 = nI ((w + 1) % 16) ∧ m 8 0 = nI (min (a + 1) 16) ∧ ∀ j, j ≠ 0 → j ≠ 4 → m 8 j = mi 8 j) ∧ ((∀ i, i < 13 → m 10 (13 * ((w + 1) % 16) + i) = mi 9 i) ∧ ∀ s, (s < 13 * ((w + 1) % 16) ∨ 13 * ((w + 1) % 16) + 13 ≤ s) → m 10 s = mi 10 s) ∧ m 0 9 = 0 ∧ ∀ j, j ≠ 9 → m 0 j = mi 0 j
theorem AC.of {r : MI} (h9 : ∀ n, n ≠ 9 → r n = kpm mi w a n) : AC w a mi (up r 0 9 0) := by
  have k0 : ∀ n, n ≠ 8 → n ≠ 10 → kpm mi w a n = mi n := fun n n8 n10 => by unfold kpm; rw [up_off _ _ n8, cpm_off _ n10, up_off _ _ n8]
  have k8 : kpm mi w a 8 = fun j => if j = 0 then nI (min (a + 1) 16) else if j = 4 then nI ((w + 1) % 16) else mi 8 j := by
    funext j
    unfold kpm
    by_cases q : j = 0
    · subst q; rw [up_at, if_pos rfl]
    · rw [up_ne _ _ q, cpm_off _ (by decide), if_neg q]
      by_cases q4 : j = 4
      · subst q4; rw [up_at, if_pos rfl]
      · rw [up_ne _ _ q4, if_neg q4]
  have k10 : kpm mi w a 10 = va_cpy (mi 9) (mi 10) 0 (13 * ((w + 1) % 16)) 13 := by
    unfold kpm
    rw [up_off _ _ (by decide), cpm_row, up_off _ _ (by decide), up_off _ _ (by decide)]
  refine ⟨fun n n0 n8 n9 n10 => by rw [up_off _ _ n0, h9 n n9]; exact k0 n n8 n10, ⟨?_, ?_, fun j j0 j4 => ?_⟩, ⟨fun i hi => ?_, fun s hs => ?_⟩, up_at _ _ _ _, fun j hj => ?_⟩
  · rw [up_off _ _ (by decide), h9 8 (by decide), k8]; rfl
  · rw [up_off _ _ (by decide), h9 8 (by decide), k8]; rfl
  · rw [up_off _ _ (by decide), h9 8 (by decide), k8]; show (if j = 0 then _ else if j = 4 then _ else mi 8 j) = _; rw [if_neg j0, if_neg j4]
  · rw [up_off _ _ (by decide), h9 10 (by decide), k10]; unfold va_cpy
    show (if _ then _ else _) = _
    rw [if_pos (by omega)]
    congr 1
    omega
  · rw [up_off _ _ (by decide), h9 10 (by decide), k10]; unfold va_cpy
    show (if _ then _ else _) = _
    rw [if_neg (by omega)]
  · rw [up_ne _ _ hj, h9 0 (by decide), k0 0 (by decide) (by decide)]
/-- what the reference's acts write, their row of the present aside -/
theorem zact {r : MI} {x : Int32} (Z : ZZ c T T' t mi ml mr dom) (C : TC c T M t v mi mr) (hw : mi 8 4 = nI w) (hw16 : w < 16) (ha : a ≤ 16) (hPA : ∀ j, j < a → ∃ u, SV c t (fun i => mi 10 (13 * ((w + 16 - j) % 16) + i)) (fun i => mi 1003 (13 * (a - 1 - j) + i)) u) (hac : AC w a mi m1) (hrb : RB2 a (up m1 1000 0 x) m) (hr : ∀ n, n ≠ 1002 → r n = m n) (hS : SV (c + 1) t (m1 9) (r 1002) v') : ZZ (c + 1) T T' t (up (up r 1000 1 0) 1000 2 (-1)) ml mr dom := by
  obtain ⟨c1, ⟨c2, c3, c4⟩, ⟨c5, c6⟩, c7, c8⟩ := hac
  obtain ⟨r1, r2, r3, r4, r5⟩ := hrb
  have lo : ∀ n, n < 1000 → (up (up r 1000 1 0) 1000 2 (-1)) n = m1 n := fun n hn => by rw [up_off _ _ (by omega), up_off _ _ (by omega), hr n (by omega), r1 n (by omega) (by omega), up_off _ _ (by omega)]
  have e1002 : (up (up r 1000 1 0) 1000 2 (-1)) 1002 = r 1002 := by rw [up_off _ _ (by decide), up_off _ _ (by decide)]
  have e1003 : (up (up r 1000 1 0) 1000 2 (-1)) 1003 = m 1003 := by rw [up_off _ _ (by decide), up_off _ _ (by decide), hr _ (by decide)]
  have hi : ∀ n, 1000 < n → n ≠ 1002 → n ≠ 1003 → (up (up r 1000 1 0) 1000 2 (-1)) n = mi n := fun n hn n2 n3 => by rw [up_off _ _ (by omega), up_off _ _ (by omega), hr n n2, r1 n (by omega) n3, up_off _ _ (by omega)]; exact c1 n (by omega) (by omega) (by omega) (by omega)
  have m00 : ∀ j, j ≠ 0 → j ≠ 1 → j ≠ 2 → j ≠ 19 → (up (up r 1000 1 0) 1000 2 (-1)) 1000 j = mi 1000 j := fun j b0 b1 b2 b3 => by rw [up_ne _ _ b2, up_ne _ _ b1, hr 1000 (by decide), r2 j b3, up_ne _ _ b0]; rw [c1 1000 (by decide) (by decide) (by decide) (by decide)]
  have s3 : m1 1003 = mi 1003 := c1 1003 (by decide) (by decide) (by decide) (by decide)
  have s2 : m1 1002 = mi 1002 := c1 1002 (by decide) (by decide) (by decide) (by decide)
  have hI := Z.2.2.2.2.2.1
  obtain ⟨n0, n1, n2, n3, n4⟩ := hI
  refine zmk (v' := v') Z C (fun n n0 n8 n9 n10 _ hn => (lo n hn).trans (c1 n n0 n8 n9 n10)) (fun j hj => by rw [lo 0 (by decide)]; exact c8 j hj) (by rw [lo 0 (by decide)]; exact c7) (fun n hn n2 n3 _ => hi n hn n2 n3) (fun j b0 b1 b2 b3 _ => m00 j b0 b1 b2 b3) (by rw [up_ne _ _ (by decide), up_at]) (up_at _ _ _ _) (by rw [lo 9 (by decide), e1002]; exact hS) ⟨min (a + 1) 16, (w + 1) % 16, ?_, ?_, by omega, ?_, by omega, fun j hj => ?_⟩ ⟨n0, ?_, ?_, n3, fun j hj => ?_⟩
  · rw [lo 8 (by decide)]; exact c3
  · rw [up_ne _ _ (by decide), up_ne _ _ (by decide), hr 1000 (by decide), r3]; congr 1; omega
  · rw [lo 8 (by decide)]; exact c2
  · rw [lo 10 (by decide), e1003]
    by_cases j0 : j = 0
    · subst j0
      refine ⟨v, (C.S.cg C.W (fun i hi => ?_) (fun i hi => ?_)).le (Nat.le_succ c)⟩
      · show m1 10 (13 * (((w + 1) % 16 + 16 - 0) % 16) + i) = mi 9 i
        rw [show ((w + 1) % 16 + 16 - 0) % 16 = (w + 1) % 16 by omega]; exact c5 i hi
      · show m 1003 (13 * (min (a + 1) 16 - 1 - 0) + i) = mi 1002 i
        rw [show min (a + 1) 16 - 1 - 0 = min a 15 by omega, r4 i hi, up_off _ _ (by decide), s2]
    · obtain ⟨u, hu⟩ := hPA (j - 1) (by omega)
      refine ⟨u, (hu.cg C.W (fun i hi => ?_) (fun i hi => ?_)).le (Nat.le_succ c)⟩
      · show m1 10 (13 * (((w + 1) % 16 + 16 - j) % 16) + i) = mi 10 (13 * ((w + 16 - (j - 1)) % 16) + i)
        rw [show ((w + 1) % 16 + 16 - j) % 16 = (w + 16 - (j - 1)) % 16 by omega]
        refine c6 _ ?_
        have : (w + 16 - (j - 1)) % 16 ≠ (w + 1) % 16 := by omega
        omega
      · show m 1003 (13 * (min (a + 1) 16 - 1 - j) + i) = mi 1003 (13 * (a - 1 - (j - 1)) + i)
        rw [r5 _ (by omega), up_off _ _ (by decide), s3]
        congr 1
        omega
  · rw [lo 8 (by decide), c4 1 (by decide) (by decide)]; exact n1
  · rw [m00 20 (by decide) (by decide) (by decide) (by decide)]; exact n2
  · rw [lo 11 (by decide), c1 11 (by decide) (by decide) (by decide) (by decide), hi 1004 (by decide) (by decide) (by decide)]
    obtain ⟨u, hu⟩ := n4 j hj
    exact ⟨u, hu.le (Nat.le_succ c)⟩
end DUO6
