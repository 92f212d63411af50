/-! the law's calls, two and two: feed, town -/
section DUO9
variable {G : GG} {c T T' M a w n k x y z : Nat} {t : TW} {v v' : Nat → Nat} {mi m m1 m2 : MI} {ml ml2 : ML} {mr : MR} {dom : List Nat} {e : Int32}
theorem pbk {f g : Nat → Int32} {x : Int32} (h : ∀ i, i < k → f i = g i ∧ g i = sx (by8 (g i))) : ∀ i, i < k + 4 → pb f k x i = pb g k x i ∧ pb g k x i = sx (by8 (pb g k x i)) := by
  intro i hi
  have e : ∀ F : Nat → Int32, pb F k x i = if i = k + 3 then bv x 0 else if i = k + 2 then bv x 8 else if i = k + 1 then bv x 16 else if i = k then bv x 24 else F i := fun F => rfl
  rw [e, e]
  by_cases q3 : i = k + 3
  · rw [if_pos q3, if_pos q3]; exact ⟨rfl, bv_sx _ _⟩
  · rw [if_neg q3, if_neg q3]
    by_cases q2 : i = k + 2
    · rw [if_pos q2, if_pos q2]; exact ⟨rfl, bv_sx _ _⟩
    · rw [if_neg q2, if_neg q2]
      by_cases q1 : i = k + 1
      · rw [if_pos q1, if_pos q1]; exact ⟨rfl, bv_sx _ _⟩
      · rw [if_neg q1, if_neg q1]
        by_cases q0 : i = k
        · rw [if_pos q0, if_pos q0]; exact ⟨rfl, bv_sx _ _⟩
        · rw [if_neg q0, if_neg q0]; exact h i (by omega)
theorem zfeed (Z : ZZ c T T' t mi ml mr dom) (h1 : ∀ a, a ≠ 0 → a ≠ 1 → a ≠ 1000 → a ≠ 1001 → m2 a = mi a) (h0 : ∀ j, j ≠ 1 → m2 0 j = mi 0 j) (h2 : ∀ j, j ≠ 0 → j ≠ 6 → m2 1000 j = mi 1000 j) (hT2 : zT m2) : ZZ (c + 1) T T' t m2 ml mr dom := by
  obtain ⟨⟨x1, x2, ⟨hT, hT', hne, hTn, hTs⟩, hW, hR, hk, hdm⟩, ⟨y1, y2, y3⟩, -, hC, ⟨a, w, a1, a2, a3, a4, a5, a6⟩, ⟨n, n1, n2, n3, n4⟩, hud⟩ := Z
  have b := hT.b
  have hRX : RX m2 T t := RX_off2 (fun j j6 _ _ => h1 _ (by omega) (by omega) (by omega) (by omega)) (by rw [h1 _ (by omega) (by omega) (by omega) (by omega)]) hR hW
  have cl : ∀ a, 1 < a → a < 1000 → m2 a = mi a := fun a ha hb => h1 a (by omega) (by omega) (by omega) (by omega)
  refine ⟨⟨x1, x2, ⟨hT, hT', hne, hTn, hTs⟩, hW, hRX, hk, fun z hz => by have := hdm z hz; omega⟩, ⟨?_, ?_, ?_⟩, hT2, hC.kk (cl 15 (by decide) (by decide)) (cl 16 (by decide) (by decide)), ⟨a, w, ?_, ?_, a3, ?_, a5, fun j hj => ?_⟩, ⟨n, ?_, ?_, n3, fun j hj => ?_⟩, ?_⟩
  · rw [h2 1 (by decide) (by decide), h0 9 (by decide)]; exact y1
  · rw [h2 13 (by decide) (by decide), h0 10 (by decide)]; exact y2
  · rw [h2 2 (by decide) (by decide), h0 9 (by decide), h0 11 (by decide)]; exact y3
  · rw [cl 8 (by decide) (by decide)]; exact a1
  · rw [h2 19 (by decide) (by decide)]; exact a2
  · rw [cl 8 (by decide) (by decide)]; exact a4
  · rw [cl 10 (by decide) (by decide), h1 1003 (by decide) (by decide) (by decide) (by decide)]
    obtain ⟨u, hu⟩ := a6 j hj
    exact ⟨u, hu.le (Nat.le_succ c)⟩
  · rw [cl 8 (by decide) (by decide)]; exact n1
  · rw [h2 20 (by decide) (by decide)]; exact n2
  · rw [cl 11 (by decide) (by decide), h1 1004 (by decide) (by decide) (by decide) (by decide)]
    obtain ⟨u, hu⟩ := n4 j hj
    exact ⟨u, hu.le (Nat.le_succ c)⟩
  · have t0 : m2 T = mi T := cl T (by omega) (by omega)
    rcases hud with ⟨u1, u2, u3, u4, u5⟩ | ⟨k, v, d1, d2, d3, d4, d5, d6, d7, d8, d9⟩
    · exact Or.inl ⟨by rw [t0]; exact u1, u2, u3, by rw [cl 8 (by decide) (by decide)]; exact u4, by rw [cl 8 (by decide) (by decide)]; exact u5⟩
    · refine Or.inr ⟨k, v, by rw [t0]; exact d1, d2, d3, d4, by omega, d6, d7, RM_off (fun j _ => h1 _ (by omega) (by omega) (by omega) (by omega)) d8, ?_⟩
      rw [cl 9 (by decide) (by decide), h1 1002 (by decide) (by decide) (by decide) (by decide)]
      exact d9.le (Nat.le_succ c)
theorem du_feed {a b d f g : Int32} (hZ : LAZ c mi ml mr dom) : DU G c yX11_feed cX11_feed 6 (some .int) [.ref 0, .int a, .int b, .int d, .int f, .int g] yX13_feed cX13_feed 8 (some .int) [.ref 1000, .int a, .int b, .int d, .int f, .int g] mi ml mr dom := by
  obtain ⟨T, T', t, Z⟩ := hZ
  intro K hK
  obtain ⟨q, q1, q2, q3, q4⟩ := Z.2.2.1
  by_cases hk : q + 20 ≤ 1100
  · refine ⟨2, by decide, cx_feed Z.1.1 q2 hk (fun m o1 o2 o3 o4 => hK _ _ _ _ _ (fun K2 h2 => ⟨1, by decide, mx_feed (k := q) Z.1.2.1 (by rw [o1 1000 (by decide) (by decide)]; exact q3) hk (fun m2 p1 p2 p3 p4 p5 => h2 _ _ _ _ ⟨T, T', t, zfeed Z (fun z z0 z1 y0 y1 => (p1 z y0 y1).trans (o1 z z0 z1)) (fun j hj => by rw [p1 0 (by decide) (by decide)]; exact o4 j hj) (fun j j0 j6 => (p5 j j0 j6).trans (by rw [o1 1000 (by decide) (by decide)])) ⟨q + 20, hk, ?_, p3, ?_⟩⟩)⟩))⟩
    · rw [p1 0 (by decide) (by decide)]; exact o3
    · rw [p2, p1 1 (by decide) (by decide), o2, o1 1001 (by decide) (by decide)]
      exact pbk (k := q + 16) (pbk (k := q + 12) (pbk (k := q + 8) (pbk (k := q + 4) (pbk (k := q) q4))))
  · exact ⟨2, by decide, cx_feedN q2 q1 hk (hK _ _ _ _ _ (fun K2 h2 => ⟨1, by decide, mx_feedN q3 q1 hk (h2 _ _ _ _ ⟨T, T', t, zt0 Z 0⟩)⟩))⟩
theorem XR.off {r : MR} (h : XR mr) (e : ∀ a, a < 1000 → r a = mr a) : XR r := ⟨fun q hq => by rw [e q.1 ((show ∀ q ∈ fxA, q.1 < 1000 by decide) q hq)]; exact h.1 q hq, fun q hq => by rw [e q.1 ((show ∀ q ∈ fxT1, q.1 < 1000 by decide) q hq)]; exact h.2.1 q hq, fun q hq => by rw [e q.1 ((show ∀ q ∈ fxT2, q.1 < 1000 by decide) q hq)]; exact h.2.2 q hq⟩
theorem hFM {B : Nat → Nat} {n : Nat} : ∀ s : RS, rdT B n = .inr s → ∀ i, i < 36 → cf (FwM s.2.2 i) = fwC (s.2.2 2) i := fun s hs i hi => fw_eq (rdT_ok hs).1 (rdT_ok hs).2.1 hi
theorem MB_lt {z M : Nat} (h : z < M) : z ∉ MB M := fun q => by
  unfold MB at q
  obtain ⟨r, _, e⟩ := List.mem_map.mp q
  omega
/-- after a town that is not read -/
theorem ztE {e : Nat × Nat} {m' : MI} {l' : ML} {l : ML} {r : MR} {D : List Nat} (Z : ZZ c T T' t mi ml mr dom)
    (c1 : ∀ a, a ≠ 0 → a ≠ 2 → a ≠ 6 → a ≠ 7 → (a < T' ∨ T' + 60 ≤ a) → m' a = mi a) (c2 : ∀ a, a ≠ 2 → a ≠ 5 → l' a = ml a) (c3 : m' 0 1 = 0) (c4 : m' 0 9 = 4) (c5 : m' 0 10 = nI e.1) (c6 : m' 0 11 = nI e.2)
    (tq : TQ c m' l' (upr mr 2 2 (some 1)) dom m l r D) (p1 : m 1002 = m' 1002) (p2 : r 1000 3 = (upr mr 2 2 (some 1)) 1000 3) (p3 : m 1000 1 = nI 4) (p4 : m 1000 2 = nI e.2) (p5 : m 1000 13 = nI e.1) (p6 : ∀ j, 14 < j → m 1000 j = m' 1000 j) : ZZ (c + 1) T T' t m l r D := by
  obtain ⟨⟨x1, x2, ⟨hT, hT', hne, hTn, hTs⟩, hW, hR, hk, hdm⟩, ⟨y1, y2, y3⟩, -, hC, ⟨a, w, a1, a2, a3, a4, a5, a6⟩, ⟨n, n1, n2, n3, n4⟩, hud⟩ := Z
  obtain ⟨t1, t2, t3, t4, t5, t6, t7, t8⟩ := tq
  have b := hT.b
  have b' := hT'.b
  have far : ∀ j, j < 60 → T + j < T' ∨ T' + 60 ≤ T + j := fun j hj => by rcases hT with rfl | rfl <;> rcases hT' with rfl | rfl <;> omega
  have lc : ∀ a, a ≠ 1000 → a ≠ 1002 → a < 2000 + 20 * c → a ≠ 0 → a ≠ 2 → a ≠ 6 → a ≠ 7 → (a < T' ∨ T' + 60 ≤ a) → m a = mi a := fun a u1 u2 u3 v1 v2 v3 v4 v5 => (t1 a u1 u2 u3).trans (c1 a v1 v2 v3 v4 v5)
  have lo : ∀ a, 7 < a → a < 100 → m a = mi a := fun a ha hb => lc a (by omega) (by omega) (by omega) (by omega) (by omega) (by omega) (by omega) (by omega)
  have hi : ∀ a, 1000 < a → a ≠ 1002 → a < 2000 + 20 * c → m a = mi a := fun a ha h2 hb => lc a (by omega) h2 hb (by omega) (by omega) (by omega) (by omega) (by omega)
  have tw : ∀ j, j < 60 → m (T + j) = mi (T + j) := fun j hj => lc _ (by omega) (by omega) (by omega) (by omega) (by omega) (by omega) (by omega) (far j hj)
  have e00 : m 0 = m' 0 := t1 0 (by decide) (by decide) (by omega)
  have e1000 : m' 1000 = mi 1000 := c1 1000 (by decide) (by decide) (by decide) (by decide) (by omega)
  have e1002 : m 1002 = mi 1002 := p1.trans (c1 1002 (by decide) (by decide) (by decide) (by decide) (by omega))
  have hRX : RX m T t := RX_off2 (fun j j6 _ _ => tw j j6) (by rw [tw 2 (by decide)]) hR hW
  have hr0 : ∀ a, a < 1000 → r a = (upr mr 2 2 (some 1)) a := fun a ha => t3 a (by omega) (by omega)
  refine ⟨⟨(x1.u22 _).off hr0, x2.ur (fun j j3 j4 => (t4 j j3 j4).trans (by rw [upr_off _ _ (by decide)])), ⟨hT, hT', hne, by rw [hr0 0 (by decide), upr_off _ _ (by decide)]; exact hTn, by rw [hr0 0 (by decide), upr_off _ _ (by decide)]; exact hTs⟩, hW, hRX, fun k hk' => by rw [t2 4 (by decide) (by omega), c2 4 (by decide) (by decide)]; exact hk k hk', fun z hz => ?_⟩, ⟨by rw [p3, e00, c4]; rfl, by rw [p5, e00, c5], by rw [p4, e00, c4, if_pos rfl, c6]⟩, ⟨0, by decide, by rw [e00, c3]; rfl, by rw [t8]; rfl, fun i hi => absurd hi (Nat.not_lt_zero _)⟩, hC.kk (lo 15 (by decide) (by decide)) (lo 16 (by decide) (by decide)), ⟨a, w, ?_, ?_, a3, ?_, a5, fun j hj => ?_⟩, ⟨n, ?_, ?_, n3, fun j hj => ?_⟩, ?_⟩
  · rcases (t6 z).mp hz with q | q
    · have := hdm z q; omega
    · omega
  · rw [lo 8 (by decide) (by decide)]; exact a1
  · rw [p6 19 (by decide), e1000]; exact a2
  · rw [lo 8 (by decide) (by decide)]; exact a4
  · rw [lo 10 (by decide) (by decide), hi 1003 (by decide) (by decide) (by omega)]
    obtain ⟨u, hu⟩ := a6 j hj
    exact ⟨u, hu.le (Nat.le_succ c)⟩
  · rw [lo 8 (by decide) (by decide)]; exact n1
  · rw [p6 20 (by decide), e1000]; exact n2
  · rw [lo 11 (by decide) (by decide), hi 1004 (by decide) (by decide) (by omega)]
    obtain ⟨u, hu⟩ := n4 j hj
    exact ⟨u, hu.le (Nat.le_succ c)⟩
  · have t0 : m T = mi T := tw 0 (by decide)
    have r3 : r 1000 3 = mr 1000 3 := p2.trans (by rw [upr_off _ _ (by decide)])
    rcases hud with ⟨u1, u2, u3, u4, u5⟩ | ⟨k, v, d1, d2, d3, d4, d5, d6, d7, d8, d9⟩
    · exact Or.inl ⟨by rw [t0]; exact u1, u2, r3.trans u3, by rw [lo 8 (by decide) (by decide)]; exact u4, by rw [lo 8 (by decide) (by decide)]; exact u5⟩
    · refine Or.inr ⟨k, v, by rw [t0]; exact d1, d2, d3, d4, by omega, r3.trans d6, fun q q1 q2 => by rw [t3 _ (by omega) (by omega), upr_off _ _ (by omega)]; exact d7 q q1 q2, RM_off (fun j _ => hi _ (by omega) (by omega) (by omega)) d8, ?_⟩
      rw [lo 9 (by decide) (by decide), e1002]
      exact d9.le (Nat.le_succ c)
end DUO9
