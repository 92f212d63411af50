/-! the law's calls, two and two: go, hand, hours, undo, image, back, feed -/
section DUO7
variable {G : GG} {c T T' M a w n k x y z : Nat} {t : TW} {v v' : Nat → Nat} {mi m m1 m2 : MI} {ml ml2 : ML} {mr : MR} {dom : List Nat} {e : Int32} {f g f' g' : Nat → Int32}
theorem SV.put (h : SV c t f g v) (hW : WT t) (e1 : ∀ i, i < 13 → f' i = if i = k then nI x else f i) (e2 : ∀ i, i < 13 → g' i = if i = k then nI x else g i) (hk : k < 11) (hx : x < t 0 3) : SV c t f' g' (fun i => if i = k then x else v i) := by
  have w := hW.1
  have key : ∀ i, i < 13 → (i ≠ k → f i = nI (v i) ∧ g i = nI (v i) ∧ v i < t 0 3) → f' i = nI (if i = k then x else v i) ∧ g' i = nI (if i = k then x else v i) ∧ (if i = k then x else v i) < t 0 3 := fun i hi hv => by
    rw [e1 i hi, e2 i hi]
    by_cases q : i = k
    · rw [if_pos q, if_pos q, if_pos q]; exact ⟨rfl, rfl, hx⟩
    · rw [if_neg q, if_neg q, if_neg q]; exact hv q
  refine ⟨fun p hp => key p (by omega) (fun _ => h.1 p hp), fun j hj => key (6 + j) (by omega) (fun _ => h.2.1 j hj), ?_, ?_⟩
  · rw [e1 11 (by decide), e2 11 (by decide)]
    show (if 11 = k then _ else _) = nI (if 11 = k then x else v 11) ∧ (if 11 = k then _ else _) = nI (if 11 = k then x else v 11) ∧ (if 11 = k then x else v 11) < 24
    rw [if_neg (by omega), if_neg (by omega), if_neg (by omega)]; exact h.2.2.1
  · rw [e1 12 (by decide), e2 12 (by decide)]
    show (if 12 = k then _ else _) = nI (if 12 = k then x else v 12) ∧ (if 12 = k then _ else _) = nI (if 12 = k then x else v 12) ∧ (if 12 = k then x else v 12) ≤ c
    rw [if_neg (by omega), if_neg (by omega), if_neg (by omega)]; exact h.2.2.2
theorem SV.hr (h : SV c t f g v) (hW : WT t) (e1 : ∀ i, i < 11 → f' i = f i) (e2 : ∀ i, i < 11 → g' i = g i) (f1 : f' 11 = nI y) (f2 : f' 12 = nI z) (g1 : g' 11 = nI y) (g2 : g' 12 = nI z) (hy : y < 24) (hz : z ≤ c + 1) : SV (c + 1) t f' g' (fun i => if i = 11 then y else if i = 12 then z else v i) := by
  have w := hW.1
  have key : ∀ i, i < 11 → f i = nI (v i) ∧ g i = nI (v i) ∧ v i < t 0 3 → f' i = nI (if i = 11 then y else if i = 12 then z else v i) ∧ g' i = nI (if i = 11 then y else if i = 12 then z else v i) ∧ (if i = 11 then y else if i = 12 then z else v i) < t 0 3 := fun i hi hv => by
    rw [e1 i hi, e2 i hi, if_neg (by omega), if_neg (by omega)]; exact hv
  exact ⟨fun p hp => key p (by omega) (h.1 p hp), fun j hj => key (6 + j) (by omega) (h.2.1 j hj), ⟨f1, g1, hy⟩, ⟨f2, g2, hz⟩⟩
theorem AC.rm (h : AC w a mi m1) (C : TC c T M t v mi mr) : RM m1 M t := RM_lo C.mm (fun n hn => h.1 n (by omega) (by omega) (by omega) (by omega)) C.r
theorem AC.vm (h : AC w a mi m1) (C : TC c T M t v mi mr) (hc : c < 99999) : VM m1 t v := VM_off (h.1 1002 (by decide) (by decide) (by decide) (by decide)) (C.S.vm hc)
theorem AC.act (h : AC w a mi m1) (h9 : mi 1000 19 = nI a) : m1 1000 19 = nI a := by rw [h.1 1000 (by decide) (by decide) (by decide) (by decide)]; exact h9
theorem kp9 (mi : MI) (w a : Nat) : kpm mi w a 9 = mi 9 := by unfold kpm; rw [up_off _ _ (by decide), cpm_off _ (by decide), up_off _ _ (by decide)]
theorem RB2.r2 {x : Int32} (h : RB2 a (up m1 1000 0 x) m) (h2 : AC w a mi m1) : m 1002 = mi 1002 := by rw [h.1 1002 (by decide) (by decide), up_off _ _ (by decide)]; exact h2.1 1002 (by decide) (by decide) (by decide) (by decide)
theorem up_if (mi : MI) (a j : Nat) (x : Int32) (i : Nat) : up mi a j x a i = if i = j then x else mi a i := by unfold up; rw [if_pos rfl]
theorem diag (C : TC c T M t v mi mr) {p h : Nat} (hp : v p < t 0 3) (hh : h < t 0 3) : (t 3 (6 * v p + h) = 0 ↔ v p = h) := by
  have w := C.W.1
  refine ⟨fun q => ?_, fun q => by rw [q]; exact C.D.1 h (by omega)⟩
  by_cases e : v p = h
  · exact e
  · obtain ⟨b, b1, b2, b3⟩ := C.D.2.2.2.1 (v p) h (by omega) (by omega) e (by omega)
    omega
end DUO7
section DUO8
variable {G : GG} {c : Nat} {mi : MI} {ml : ML} {mr : MR} {dom : List Nat}
theorem du_go {a b : Int32} (hc : c < 99999) (hZ : LAZ c mi ml mr dom) : DU G c yX11_go cX11_go 5 (some .int) [.ref 0, .int a, .int b] yX13_go cX13_go 4 (some .int) [.ref 1000, .int a, .int b] mi ml mr dom := by
  obtain ⟨T, T', t, Z⟩ := hZ
  intro K hK
  rcases zcase Z with ⟨rfl, U⟩ | ⟨M, v, C⟩
  · exact ⟨2, by decide, cx_goB1 U.X U.tT U.Tn U.W U.R (bad00 _ _ _) (hK _ _ _ _ _ (fun K2 h2 => ⟨3, by decide, mx_goN U.TM  (h2 _ _ _ _ ⟨_, _, _, zrf Z (fc9 U.tT _ 1) (up_at _ _ _ _) (by decide) (Z.c9 rfl rfl)⟩)⟩))⟩
  · have w := C.W.1
    obtain ⟨a0, w0, a1, a2, a3, a4, a5, a6⟩ := Z.2.2.2.2.1
    rcases bad_or a (t 0 5) (by omega) with hb0 | ⟨p, hk0, rfl⟩
    · exact ⟨2, by decide, cx_goB1 C.X C.tT C.Tn C.W C.R hb0 (hK _ _ _ _ _ (fun K2 h2 => ⟨3, by decide, mx_goB1 C.xm C.mm C.xt C.TM C.G C.W (C.rm (fc9 C.tT _ 1)) hb0 (h2 _ _ _ _ ⟨_, _, _, zrf Z (fc9 C.tT _ 1) (up_at _ _ _ _) (by decide) (Z.c9 rfl rfl)⟩)⟩))⟩
    rcases bad_or b (t 0 3) (by omega) with hb1 | ⟨h, hk1, rfl⟩
    · exact ⟨2, by decide, cx_goB2 C.X C.tT C.Tn C.W C.R hk0 hb1 (hK _ _ _ _ _ (fun K2 h2 => ⟨3, by decide, mx_goB2 C.xm C.mm C.xt C.TM C.G C.W (C.rm (fc9 C.tT _ 1)) hk0 hb1 (h2 _ _ _ _ ⟨_, _, _, zrf Z (fc9 C.tT _ 1) (up_at _ _ _ _) (by decide) (Z.c9 rfl rfl)⟩)⟩))⟩
    have hd := diag C (C.hvl p hk0) hk1
    by_cases hlt : t 3 (6 * v p + h) < 99999
    · by_cases hn0 : t 3 (6 * v p + h) = 0
      · exact ⟨2, by decide, cx_goN C.X C.tT C.Tn C.W C.R hk0 hk1 (C.hv p hk0) (C.hvl p hk0) (Or.inl (hd.mp hn0)) (hK _ _ _ _ _ (fun K2 h2 => ⟨3, by decide, mx_goS C.xm C.mm C.xt C.TM C.G C.W (C.rm (fc9 C.tT _ 5)) (C.vm hc (fc9 C.tT _ 5)) hk0 hk1 (Or.inl hn0) (h2 _ _ _ _ ⟨_, _, _, zrf Z (fc9 C.tT _ 5) (up_at _ _ _ _) (by decide) (Z.c9 rfl rfl)⟩)⟩))⟩
      · have hne : v p ≠ h := fun q => hn0 (hd.mpr q)
        have hac : AC w0 a0 mi (up (up (kpm mi w0 a0) 9 p (nI h)) 0 9 0) := AC.of (fun n hn => up_off _ _ hn)
        exact ⟨3, by decide, cx_go C.X C.tT C.Tn C.W C.R hk0 hk1 (C.hv p hk0) (C.hvl p hk0) hne (cf6 hlt) a4 a5 a1 a3 (hK _ _ _ _ _ (fun K2 h2 => ⟨3, by decide, mx_go C.xm C.mm C.xt C.TM C.G C.W (hac.rm C) (hac.vm C hc) hk0 hk1 hlt hn0 (hac.act a2) a3 (fun m hrb => by rw [cf_lt hlt] at h2; exact h2 _ _ _ _ ⟨_, _, _, zact (r := up m 1002 p (nI h)) Z C a4 a5 a3 a6 hac hrb (fun n hn => up_off _ _ hn) ((C.S.le (Nat.le_succ c)).put C.W (k := p) (x := h) (fun j hj => by rw [up_off _ _ (by decide), up_if, kp9]) (fun j hj => by rw [up_if, hrb.r2 hac]) (by omega) hk1)⟩)⟩))⟩
    · exact ⟨2, by decide, cx_goN C.X C.tT C.Tn C.W C.R hk0 hk1 (C.hv p hk0) (C.hvl p hk0) (Or.inr (cf7 hlt)) (hK _ _ _ _ _ (fun K2 h2 => ⟨3, by decide, mx_goS C.xm C.mm C.xt C.TM C.G C.W (C.rm (fc9 C.tT _ 5)) (C.vm hc (fc9 C.tT _ 5)) hk0 hk1 (Or.inr (by omega)) (h2 _ _ _ _ ⟨_, _, _, zrf Z (fc9 C.tT _ 5) (up_at _ _ _ _) (by decide) (Z.c9 rfl rfl)⟩)⟩))⟩
theorem du_hand {a b : Int32} (hc : c < 99999) (hZ : LAZ c mi ml mr dom) : DU G c yX11_hand cX11_hand 5 (some .boolean) [.ref 0, .int a, .int b] yX13_hand cX13_hand 4 (some .boolean) [.ref 1000, .int a, .int b] mi ml mr dom := by
  obtain ⟨T, T', t, Z⟩ := hZ
  intro K hK
  rcases zcase Z with ⟨rfl, U⟩ | ⟨M, v, C⟩
  · exact ⟨2, by decide, cx_handB1 U.X U.tT U.Tn U.W U.R (bad00 _ _ _) (hK _ _ _ _ _ (fun K2 h2 => ⟨3, by decide, mx_handNu U.TM  (h2 _ _ _ _ ⟨_, _, _, zrf Z (fc9 U.tT _ 1) (up_at _ _ _ _) (by decide) (Z.c9 rfl rfl)⟩)⟩))⟩
  · have w := C.W.1
    obtain ⟨a0, w0, a1, a2, a3, a4, a5, a6⟩ := Z.2.2.2.2.1
    rcases bad_or a (t 0 6) (by omega) with hb0 | ⟨g, hk0, rfl⟩
    · exact ⟨2, by decide, cx_handB1 C.X C.tT C.Tn C.W C.R hb0 (hK _ _ _ _ _ (fun K2 h2 => ⟨3, by decide, mx_handB1 C.xm C.mm C.xt C.TM C.G C.W (C.rm (fc9 C.tT _ 1)) hb0 (h2 _ _ _ _ ⟨_, _, _, zrf Z (fc9 C.tT _ 1) (up_at _ _ _ _) (by decide) (Z.c9 rfl rfl)⟩)⟩))⟩
    rcases bad_or b (t 0 3) (by omega) with hb1 | ⟨h, hk1, rfl⟩
    · exact ⟨2, by decide, cx_handB2 C.X C.tT C.Tn C.W C.R hk0 hb1 (hK _ _ _ _ _ (fun K2 h2 => ⟨3, by decide, mx_handB2 C.xm C.mm C.xt C.TM C.G C.W (C.rm (fc9 C.tT _ 1)) hk0 hb1 (h2 _ _ _ _ ⟨_, _, _, zrf Z (fc9 C.tT _ 1) (up_at _ _ _ _) (by decide) (Z.c9 rfl rfl)⟩)⟩))⟩
    cases hy : (decide (0 < t 2 (6 * v (6 + g) + h)) && (!(isD t (v 11)) || pasB t (t 8 g) (v (6 + g)) h))
    · exact ⟨3, by decide, cx_handN C.X C.tT C.Tn C.W C.R hk0 hk1 C.gp C.L.2.2.1 C.S.2.2.1.1 (by have := C.S.2.2.1.2.2; omega) hy (hK _ _ _ _ _ (fun K2 h2 => ⟨3, by decide, mx_handN C.xm C.mm C.xt C.TM C.G C.W (C.rm (fc9 C.tT _ 5)) (C.vm hc (fc9 C.tT _ 5)) C.L.2.2.1 hk0 hk1 hy (h2 _ _ _ _ ⟨_, _, _, zrf Z (fc9 C.tT _ 5) (up_at _ _ _ _) (by decide) (Z.c9 rfl rfl)⟩)⟩))⟩
    · have hac : AC w0 a0 mi (up (up (kpm mi w0 a0) 9 (6 + g) (nI h)) 0 9 0) := AC.of (fun n hn => up_off _ _ hn)
      exact ⟨3, by decide, cx_hand C.X C.tT C.Tn C.W C.R hk0 hk1 C.gp C.L.2.2.1 C.S.2.2.1.1 (by have := C.S.2.2.1.2.2; omega) hy a4 a5 a1 a3 (hK _ _ _ _ _ (fun K2 h2 => ⟨3, by decide, mx_hand C.xm C.mm C.xt C.TM C.G C.W (hac.rm C) (hac.vm C hc) C.L.2.2.1 hk0 hk1 hy (hac.act a2) a3 (fun m hrb => h2 _ _ _ _ ⟨_, _, _, zact (r := up m 1002 (6 + g) (nI h)) Z C a4 a5 a3 a6 hac hrb (fun n hn => up_off _ _ hn) ((C.S.le (Nat.le_succ c)).put C.W (k := (6 + g)) (x := h) (fun j hj => by rw [up_off _ _ (by decide), up_if, kp9]) (fun j hj => by rw [up_if, hrb.r2 hac]) (by omega) hk1)⟩)⟩))⟩
theorem du_hours {a : Int32} (hc : c < 99999) (hZ : LAZ c mi ml mr dom) : DU G c yX11_hours cX11_hours 2 (some .int) [.ref 0, .int a] yX13_hours cX13_hours 2 (some .int) [.ref 1000, .int a] mi ml mr dom := by
  obtain ⟨T, T', t, Z⟩ := hZ
  intro K hK
  rcases zcase Z with ⟨rfl, U⟩ | ⟨M, v, C⟩
  · exact ⟨2, by decide, cx_hoursN U.X U.tT U.Tn U.W U.R U.h0 (hK _ _ _ _ _ (fun K2 h2 => ⟨3, by decide, mx_hoursN U.TM  (h2 _ _ _ _ ⟨_, _, _, zrf Z (fc9 U.tT _ 1) (up_at _ _ _ _) (by decide) (Z.c9 rfl rfl)⟩)⟩))⟩
  · have w := C.W.1
    obtain ⟨a0, w0, a1, a2, a3, a4, a5, a6⟩ := Z.2.2.2.2.1
    rcases bad_or a 25 (by decide) with hb0 | ⟨n, hk0, rfl⟩
    · have hb1 : a < 1 ∨ 24 < a := by
        rcases hb0 with h | h
        · exact Or.inl (Int32.lt_trans h (by decide))
        · exact Or.inr (Int32.lt_of_lt_of_le (by decide) h)
      exact ⟨2, by decide, cx_hoursB C.X C.tT C.Tn C.W C.R C.h0 hb1 (hK _ _ _ _ _ (fun K2 h2 => ⟨3, by decide, mx_hoursB C.xm C.mm C.xt C.TM C.G C.W (C.rm (fc9 C.tT _ 2)) hb1 (h2 _ _ _ _ ⟨_, _, _, zrf Z (fc9 C.tT _ 2) (up_at _ _ _ _) (by decide) (Z.c9 rfl rfl)⟩)⟩))⟩
    · rcases Nat.eq_zero_or_pos n with rfl | hn1
      · have hb1 : nI 0 < 1 ∨ 24 < nI 0 := Or.inl (by decide)
        exact ⟨2, by decide, cx_hoursB C.X C.tT C.Tn C.W C.R C.h0 hb1 (hK _ _ _ _ _ (fun K2 h2 => ⟨3, by decide, mx_hoursB C.xm C.mm C.xt C.TM C.G C.W (C.rm (fc9 C.tT _ 2)) hb1 (h2 _ _ _ _ ⟨_, _, _, zrf Z (fc9 C.tT _ 2) (up_at _ _ _ _) (by decide) (Z.c9 rfl rfl)⟩)⟩))⟩
      · have hv := C.S.2.2.1.2.2
        have hac : AC w0 a0 mi (up (up (up (kpm mi w0 a0) 9 12 (mi 9 12 + nI ((v 11 + n) / 24))) 9 11 (nI ((v 11 + n) % 24))) 0 9 0) := AC.of (fun n hn => by rw [up_off _ _ hn, up_off _ _ hn])
        by_cases hl : v 11 + n < 24
        · exact ⟨3, by decide, cx_hours C.X C.tT C.Tn C.W C.R C.h0 hn1 (by omega) C.S.2.2.1.1 C.S.2.2.1.2.2 a4 a5 a1 a3 (hK _ _ _ _ _ (fun K2 h2 => ⟨3, by decide, mx_hoursL C.xm C.mm C.xt C.TM C.G C.W (hac.rm C) (hac.vm C hc) hn1 (by omega) hl (hac.act a2) a3 (fun m hrb => by rw [show (v 11 + n) % 24 = v 11 + n by omega] at h2; exact h2 _ _ _ _ ⟨_, _, _, zact (r := up m 1002 11 (nI (v 11 + n))) Z C a4 a5 a3 a6 hac hrb (fun n hn => by simp only [up_off _ _ hn]) (C.S.hr C.W (y := v 11 + n) (z := v 12) (fun j hj => by rw [up_off _ _ (by decide), up_ne _ _ (by omega), up_ne _ _ (by omega), kp9]) (fun j hj => by rw [up_ne _ _ (by omega), hrb.r2 hac]) (by rw [up_off _ _ (by decide), up_at]; congr 1; omega) (by rw [up_off _ _ (by decide), up_ne _ _ (by decide), up_at, C.S.2.2.2.1, nI_add]; congr 1; omega) (by rw [up_at]) (by rw [up_ne _ _ (by decide), hrb.r2 hac]; exact C.S.2.2.2.2.1) (by omega) (by have := C.S.2.2.2.2.2; omega))⟩)⟩))⟩
        · exact ⟨3, by decide, cx_hours C.X C.tT C.Tn C.W C.R C.h0 hn1 (by omega) C.S.2.2.1.1 C.S.2.2.1.2.2 a4 a5 a1 a3 (hK _ _ _ _ _ (fun K2 h2 => ⟨3, by decide, mx_hoursG C.xm C.mm C.xt C.TM C.G C.W (hac.rm C) (hac.vm C hc) hn1 (by omega) (by omega) (hac.act a2) a3 (fun m hrb => by rw [show (v 11 + n) % 24 = v 11 + n - 24 by omega] at h2; exact h2 _ _ _ _ ⟨_, _, _, zact (r := up (up (up m 1002 11 (nI (v 11 + n))) 1002 11 (nI (v 11 + n - 24))) 1002 12 (nI (v 12 + 1))) Z C a4 a5 a3 a6 hac hrb (fun n hn => by simp only [up_off _ _ hn]) (C.S.hr C.W (y := v 11 + n - 24) (z := v 12 + 1) (fun j hj => by rw [up_off _ _ (by decide), up_ne _ _ (by omega), up_ne _ _ (by omega), kp9]) (fun j hj => by rw [up_ne _ _ (by omega), up_ne _ _ (by omega), up_ne _ _ (by omega), hrb.r2 hac]) (by rw [up_off _ _ (by decide), up_at]; congr 1; omega) (by rw [up_off _ _ (by decide), up_ne _ _ (by decide), up_at, C.S.2.2.2.1, nI_add]; congr 1; omega) (by rw [up_ne _ _ (by decide), up_at]) (by rw [up_at]) (by omega) (by have := C.S.2.2.2.2.2; omega))⟩)⟩))⟩
theorem du_undo (hc : c < 99999) (hZ : LAZ c mi ml mr dom) : DU G c yX11_undo cX11_undo 1 (some .boolean) [.ref 0] yX13_undo cX13_undo 2 (some .boolean) [.ref 1000] mi ml mr dom := by
  obtain ⟨T, T', t, Z⟩ := hZ
  intro K hK
  rcases zcase Z with ⟨rfl, U⟩ | ⟨M, v, C⟩
  · exact ⟨3, by decide, cx_undoN U.X U.tT U.Tn U.W U.R U.a0 (hK _ _ _ _ _ (fun K2 h2 => ⟨3, by decide, mx_undoNu U.TM (h2 _ _ _ _ ⟨_, _, _, zrf Z (fc9 U.tT _ 6) (up_at _ _ _ _) (by decide) (Z.c9 rfl rfl)⟩)⟩))⟩
  · have w := C.W.1
    obtain ⟨a0, w0, a1, a2, a3, a4, a5, a6⟩ := Z.2.2.2.2.1
    obtain ⟨n0, n1, n2, n3, n4⟩ := Z.2.2.2.2.2.1
    cases a0 with
    | zero =>
      exact ⟨3, by decide, cx_undoN C.X C.tT C.Tn C.W C.R a1 (hK _ _ _ _ _ (fun K2 h2 => ⟨3, by decide, mx_undoN C.xm C.mm C.xt C.TM C.G C.W (C.rm (fc9 C.tT _ 6)) (by rw [up_off _ _ (by decide)]; exact a2) (h2 _ _ _ _ ⟨_, _, _, zrf Z (fc9 C.tT _ 6) (up_at _ _ _ _) (by decide) (Z.c9 rfl rfl)⟩)⟩))⟩
    | succ a0 =>
      obtain ⟨u, hu⟩ := a6 0 (by omega)
      have hlo : ∀ n, n ≠ 0 → n ≠ 8 → n ≠ 9 → (up (up (up (cpm mi 10 9 (13 * w0) 0 13) 8 4 (nI ((w0 + 15) % 16))) 8 0 (nI a0)) 0 9 0) n = mi n := fun n n0 n8 n9 => by rw [up_off _ _ n0, up_off _ _ n8, up_off _ _ n8, cpm_off _ n9]
      have h8 : ∀ j, j ≠ 0 → j ≠ 4 → (up (up (up (cpm mi 10 9 (13 * w0) 0 13) 8 4 (nI ((w0 + 15) % 16))) 8 0 (nI a0)) 0 9 0) 8 j = mi 8 j := fun j j0 j4 => by rw [up_off _ _ (by decide), up_ne _ _ j0, up_ne _ _ j4, cpm_off _ (by decide)]
      have h9 : ∀ i, i < 13 → (up (up (up (cpm mi 10 9 (13 * w0) 0 13) 8 4 (nI ((w0 + 15) % 16))) 8 0 (nI a0)) 0 9 0) 9 i = mi 10 (13 * w0 + i) := fun i hi => by
        rw [up_off _ _ (by decide), up_off _ _ (by decide), up_off _ _ (by decide), cpm_row]; unfold va_cpy
        rw [if_pos (by omega)]; rfl
      refine ⟨3, by decide, cx_undo C.X C.tT C.Tn C.W C.R a4 a5 a1 (by omega) (hK _ _ _ _ _ (fun K2 h2 => ⟨4, by decide, mx_undo C.xm C.mm C.xt C.TM C.G C.W (RM_lo C.mm (fun n hn => hlo n (by omega) (by omega) (by omega)) C.r) (a := a0) (by rw [hlo 1000 (by decide) (by decide) (by decide)]; exact a2) (by omega) (fun m o1 o2 _ => h2 _ _ _ _ ⟨T, T', t, ?_⟩)⟩))⟩
      have lo : ∀ n, n ≠ 0 → n ≠ 8 → n ≠ 9 → n ≠ 1000 → n ≠ 1002 → (up (up m 1000 1 0) 1000 2 (-1)) n = mi n := fun n n0 n8 n9 k0 k2 => by rw [up_off _ _ k0, up_off _ _ k0, o1 n k2, up_off _ _ k0, up_off _ _ k0]; exact hlo n n0 n8 n9
      have lc : ∀ n, n < 1000 → (up (up m 1000 1 0) 1000 2 (-1)) n = (up (up (up (cpm mi 10 9 (13 * w0) 0 13) 8 4 (nI ((w0 + 15) % 16))) 8 0 (nI a0)) 0 9 0) n := fun n hn => by rw [up_off _ _ (by omega), up_off _ _ (by omega), o1 n (by omega), up_off _ _ (by omega), up_off _ _ (by omega)]
      have l0 : ∀ j, j ≠ 0 → j ≠ 1 → j ≠ 2 → j ≠ 19 → (up (up m 1000 1 0) 1000 2 (-1)) 1000 j = mi 1000 j := fun j j0 j1 j2 j9 => by rw [up_ne _ _ j2, up_ne _ _ j1, o1 1000 (by decide), up_ne _ _ j9, up_ne _ _ j0]; rw [hlo 1000 (by decide) (by decide) (by decide)]
      refine zmk (v' := u) Z C (fun n n0 n8 n9 n10 n11 hn => lo n n0 n8 n9 (by omega) (by omega)) (fun j hj => ?_) ?_ (fun n hn n2 n3 n4 => lo n (by omega) (by omega) (by omega) (by omega) n2) (fun j j0 j1 j2 j9 _ => l0 j j0 j1 j2 j9) (by rw [up_ne _ _ (by decide), up_at]) (up_at _ _ _ _) ?_ ⟨a0, (w0 + 15) % 16, ?_, ?_, by omega, ?_, by omega, fun j hj => ?_⟩ ⟨n0, ?_, ?_, n3, fun j hj => ?_⟩
      · rw [lc 0 (by decide), up_ne _ _ hj, up_off _ _ (by decide), up_off _ _ (by decide), cpm_off _ (by decide)]
      · rw [lc 0 (by decide), up_at]
      · refine (hu.cg C.W (fun i hi => ?_) (fun i hi => ?_)).le (Nat.le_succ c)
        · rw [lc 9 (by decide), h9 i hi]
          show _ = mi 10 (13 * ((w0 + 16 - 0) % 16) + i)
          rw [show (w0 + 16 - 0) % 16 = w0 by omega]
        · rw [up_off _ _ (by decide), up_off _ _ (by decide), o2 i hi, up_off _ _ (by decide), up_off _ _ (by decide), hlo 1003 (by decide) (by decide) (by decide)]
          rfl
      · rw [lc 8 (by decide), up_off _ _ (by decide), up_at]
      · rw [up_ne _ _ (by decide), up_ne _ _ (by decide), o1 1000 (by decide), up_at]
      · rw [lc 8 (by decide), up_off _ _ (by decide), up_ne _ _ (by decide), up_at]
      · rw [lo 10 (by decide) (by decide) (by decide) (by decide) (by decide), lo 1003 (by decide) (by decide) (by decide) (by decide) (by decide)]
        obtain ⟨u2, hu2⟩ := a6 (j + 1) (by omega)
        refine ⟨u2, (hu2.cg C.W (fun i hi => ?_) (fun i hi => ?_)).le (Nat.le_succ c)⟩
        · show mi 10 (13 * (((w0 + 15) % 16 + 16 - j) % 16) + i) = mi 10 (13 * ((w0 + 16 - (j + 1)) % 16) + i)
          rw [show ((w0 + 15) % 16 + 16 - j) % 16 = (w0 + 16 - (j + 1)) % 16 by omega]
        · show mi 1003 (13 * (a0 - 1 - j) + i) = mi 1003 (13 * (a0 + 1 - 1 - (j + 1)) + i)
          rw [show a0 + 1 - 1 - (j + 1) = a0 - 1 - j by omega]
      · rw [lc 8 (by decide), h8 1 (by decide) (by decide)]; exact n1
      · rw [l0 20 (by decide) (by decide) (by decide) (by decide)]; exact n2
      · rw [lo 11 (by decide) (by decide) (by decide) (by decide) (by decide), lo 1004 (by decide) (by decide) (by decide) (by decide) (by decide)]
        obtain ⟨u2, hu2⟩ := n4 j hj
        exact ⟨u2, hu2.le (Nat.le_succ c)⟩
theorem du_image (hc : c < 99999) (hZ : LAZ c mi ml mr dom) : DU G c yX11_image cX11_image 1 (some .int) [.ref 0] yX13_image cX13_image 2 (some .int) [.ref 1000] mi ml mr dom := by
  obtain ⟨T, T', t, Z⟩ := hZ
  intro K hK
  rcases zcase Z with ⟨rfl, U⟩ | ⟨M, v, C⟩
  · exact ⟨2, by decide, cx_imageN U.X U.tT U.Tn U.W U.R U.h0 (hK _ _ _ _ _ (fun K2 h2 => ⟨3, by decide, mx_imageN U.TM  (h2 _ _ _ _ ⟨_, _, _, zrf Z (fc9 U.tT _ 1) (up_at _ _ _ _) (by decide) (Z.c9 rfl rfl)⟩)⟩))⟩
  · have w := C.W.1
    obtain ⟨a0, w0, a1, a2, a3, a4, a5, a6⟩ := Z.2.2.2.2.1
    obtain ⟨n0, n1, n2, n3, n4⟩ := Z.2.2.2.2.2.1
    by_cases hn3 : n0 < 3
    · have hlo : ∀ n, n ≠ 0 → n ≠ 8 → n ≠ 11 → (up (up (cpm mi 9 11 0 (13 * n0) 13) 8 1 (nI (n0 + 1))) 0 9 0) n = mi n := fun n n0 n8 n9 => by rw [up_off _ _ n0, up_off _ _ n8, cpm_off _ n9]
      have h8 : ∀ j, j ≠ 1 → (up (up (cpm mi 9 11 0 (13 * n0) 13) 8 1 (nI (n0 + 1))) 0 9 0) 8 j = mi 8 j := fun j j1 => by rw [up_off _ _ (by decide), up_ne _ _ j1, cpm_off _ (by decide)]
      have h11 : ∀ i, (up (up (cpm mi 9 11 0 (13 * n0) 13) 8 1 (nI (n0 + 1))) 0 9 0) 11 i = va_cpy (mi 9) (mi 11) 0 (13 * n0) 13 i := fun i => by rw [up_off _ _ (by decide), up_off _ _ (by decide), cpm_row]
      refine ⟨3, by decide, cx_image C.X C.tT C.Tn C.W C.R C.h0 n1 hn3 (hK _ _ _ _ _ (fun K2 h2 => ⟨3, by decide, mx_image C.xm C.mm C.xt C.TM C.G C.W (RM_lo C.mm (fun n hn => hlo n (by omega) (by omega) (by omega)) C.r) (n := n0) (by rw [hlo 1000 (by decide) (by decide) (by decide)]; exact n2) hn3 (fun m o1 o2 o3 => h2 _ _ _ _ ⟨T, T', t, ?_⟩)⟩))⟩
      have lc : ∀ n, n ≠ 1000 → n ≠ 1004 → (up (up (up m 1000 20 (nI (n0 + 1))) 1000 1 0) 1000 2 (-1)) n = (up (up (cpm mi 9 11 0 (13 * n0) 13) 8 1 (nI (n0 + 1))) 0 9 0) n := fun n k0 k4 => by rw [up_off _ _ k0, up_off _ _ k0, up_off _ _ k0, o1 n k4, up_off _ _ k0]
      have e4 : (up (up (up m 1000 20 (nI (n0 + 1))) 1000 1 0) 1000 2 (-1)) 1004 = m 1004 := by rw [up_off _ _ (by decide), up_off _ _ (by decide), up_off _ _ (by decide)]
      have lo : ∀ n, n ≠ 0 → n ≠ 8 → n ≠ 11 → n ≠ 1000 → n ≠ 1004 → (up (up (up m 1000 20 (nI (n0 + 1))) 1000 1 0) 1000 2 (-1)) n = mi n := fun n n0 n8 n9 k0 k4 => (lc n k0 k4).trans (hlo n n0 n8 n9)
      have l0 : ∀ j, j ≠ 0 → j ≠ 1 → j ≠ 2 → j ≠ 20 → (up (up (up m 1000 20 (nI (n0 + 1))) 1000 1 0) 1000 2 (-1)) 1000 j = mi 1000 j := fun j j0 j1 j2 j9 => by rw [up_ne _ _ j2, up_ne _ _ j1, up_ne _ _ j9, o1 1000 (by decide), up_ne _ _ j0]; rw [hlo 1000 (by decide) (by decide) (by decide)]
      refine zmk (v' := v) Z C (fun n n0 n8 n9 n10 n11 hn => lo n n0 n8 n11 (by omega) (by omega)) (fun j hj => ?_) ?_ (fun n hn n2 n3 n4 => lo n (by omega) (by omega) (by omega) (by omega) n4) (fun j j0 j1 j2 _ j9 => l0 j j0 j1 j2 j9) (by rw [up_ne _ _ (by decide), up_at]) (up_at _ _ _ _) ?_ ⟨a0, w0, ?_, ?_, a3, ?_, a5, fun j hj => ?_⟩ ⟨n0 + 1, ?_, ?_, by omega, fun j hj => ?_⟩
      · rw [lc 0 (by decide) (by decide), up_ne _ _ hj, up_off _ _ (by decide), cpm_off _ (by decide)]
      · rw [lc 0 (by decide) (by decide), up_at]
      · rw [lo 9 (by decide) (by decide) (by decide) (by decide) (by decide), lo 1002 (by decide) (by decide) (by decide) (by decide) (by decide)]; exact C.S.le (Nat.le_succ c)
      · rw [lc 8 (by decide) (by decide), h8 0 (by decide)]; exact a1
      · rw [l0 19 (by decide) (by decide) (by decide) (by decide)]; exact a2
      · rw [lc 8 (by decide) (by decide), h8 4 (by decide)]; exact a4
      · rw [lo 10 (by decide) (by decide) (by decide) (by decide) (by decide), lo 1003 (by decide) (by decide) (by decide) (by decide) (by decide)]
        obtain ⟨u2, hu2⟩ := a6 j hj
        exact ⟨u2, hu2.le (Nat.le_succ c)⟩
      · rw [lc 8 (by decide) (by decide), up_off _ _ (by decide), up_at]
      · rw [up_ne _ _ (by decide), up_ne _ _ (by decide), up_at]
      · rw [lc 11 (by decide) (by decide), e4]
        by_cases q : j = n0
        · subst q
          refine ⟨v, (C.S.cg C.W (fun i hi => ?_) (fun i hi => ?_)).le (Nat.le_succ c)⟩
          · show (up (up (cpm mi 9 11 0 (13 * j) 13) 8 1 (nI (j + 1))) 0 9 0) 11 (13 * j + i) = mi 9 i
            rw [h11]; unfold va_cpy; rw [if_pos (by omega)]; congr 1; omega
          · show m 1004 (13 * j + i) = mi 1002 i
            rw [o2 i hi, up_off _ _ (by decide), hlo 1002 (by decide) (by decide) (by decide)]
        · obtain ⟨u2, hu2⟩ := n4 j (by omega)
          refine ⟨u2, (hu2.cg C.W (fun i hi => ?_) (fun i hi => ?_)).le (Nat.le_succ c)⟩
          · show (up (up (cpm mi 9 11 0 (13 * n0) 13) 8 1 (nI (n0 + 1))) 0 9 0) 11 (13 * j + i) = mi 11 (13 * j + i)
            rw [h11]; unfold va_cpy; rw [if_neg (by omega)]
          · show m 1004 (13 * j + i) = mi 1004 (13 * j + i)
            rw [o3 _ (fun k hk => by omega), up_off _ _ (by decide), hlo 1004 (by decide) (by decide) (by decide)]
    · have e3 : n0 = 3 := by omega
      subst e3
      exact ⟨2, by decide, cx_imageF C.X C.tT C.Tn C.W C.R C.h0 n1 (hK _ _ _ _ _ (fun K2 h2 => ⟨3, by decide, mx_imageF C.xm C.mm C.xt C.TM C.G C.W (C.rm (fc9 C.tT _ 3)) (by rw [up_off _ _ (by decide)]; exact n2) (h2 _ _ _ _ ⟨_, _, _, zrf Z (fc9 C.tT _ 3) (up_at _ _ _ _) (by decide) (Z.c9 rfl rfl)⟩)⟩))⟩
theorem du_back {a : Int32} (hc : c < 99999) (hZ : LAZ c mi ml mr dom) : DU G c yX11_back cX11_back 2 (some .boolean) [.ref 0, .int a] yX13_back cX13_back 3 (some .boolean) [.ref 1000, .int a] mi ml mr dom := by
  obtain ⟨T, T', t, Z⟩ := hZ
  intro K hK
  rcases zcase Z with ⟨rfl, U⟩ | ⟨M, v, C⟩
  · exact ⟨3, by decide, cx_backN U.X U.tT U.Tn U.W U.R (n := 0) U.n0 (bad00 _ 0 0) (hK _ _ _ _ _ (fun K2 h2 => ⟨3, by decide, mx_backNu U.TM (h2 _ _ _ _ ⟨_, _, _, zrf Z (fc9 U.tT _ 1) (up_at _ _ _ _) (by decide) (Z.c9 rfl rfl)⟩)⟩))⟩
  · have w := C.W.1
    obtain ⟨a0, w0, a1, a2, a3, a4, a5, a6⟩ := Z.2.2.2.2.1
    obtain ⟨n0, n1, n2, n3, n4⟩ := Z.2.2.2.2.2.1
    rcases bad_or a (n0) (by omega) with hb0 | ⟨x, hk0, rfl⟩
    · exact ⟨3, by decide, cx_backN C.X C.tT C.Tn C.W C.R n1 hb0 (hK _ _ _ _ _ (fun K2 h2 => ⟨3, by decide, mx_backB C.xm C.mm C.xt C.TM C.G C.W (C.rm (fc9 C.tT _ 1)) (by rw [up_off _ _ (by decide)]; exact n2) hb0 (h2 _ _ _ _ ⟨_, _, _, zrf Z (fc9 C.tT _ 1) (up_at _ _ _ _) (by decide) (Z.c9 rfl rfl)⟩)⟩))⟩
    obtain ⟨u, hu⟩ := n4 x hk0
    have hlo : ∀ n, n ≠ 0 → n ≠ 8 → n ≠ 9 → (up (up (cpm mi 11 9 (13 * x) 0 13) 8 0 0) 0 9 0) n = mi n := fun n n0 n8 n9 => by rw [up_off _ _ n0, up_off _ _ n8, cpm_off _ n9]
    have h8 : ∀ j, j ≠ 0 → (up (up (cpm mi 11 9 (13 * x) 0 13) 8 0 0) 0 9 0) 8 j = mi 8 j := fun j j1 => by rw [up_off _ _ (by decide), up_ne _ _ j1, cpm_off _ (by decide)]
    have h9 : ∀ i, i < 13 → (up (up (cpm mi 11 9 (13 * x) 0 13) 8 0 0) 0 9 0) 9 i = mi 11 (13 * x + i) := fun i hi => by
      rw [up_off _ _ (by decide), up_off _ _ (by decide), cpm_row]; unfold va_cpy
      rw [if_pos (by omega)]; rfl
    refine ⟨3, by decide, cx_back C.X C.tT C.Tn C.W C.R n1 hk0 n3 (hK _ _ _ _ _ (fun K2 h2 => ⟨4, by decide, mx_back C.xm C.mm C.xt C.TM C.G C.W (RM_lo C.mm (fun n hn => hlo n (by omega) (by omega) (by omega)) C.r) (n := n0) (by rw [hlo 1000 (by decide) (by decide) (by decide)]; exact n2) hk0 n3 (fun m o1 o2 o3 => h2 _ _ _ _ ⟨T, T', t, ?_⟩)⟩))⟩
    have lc : ∀ n, n ≠ 1000 → n ≠ 1002 → (up (up (up m 1000 19 (nI 0)) 1000 1 0) 1000 2 (-1)) n = (up (up (cpm mi 11 9 (13 * x) 0 13) 8 0 0) 0 9 0) n := fun n k0 k4 => by rw [up_off _ _ k0, up_off _ _ k0, up_off _ _ k0, o1 n k4, up_off _ _ k0]
    have e2 : (up (up (up m 1000 19 (nI 0)) 1000 1 0) 1000 2 (-1)) 1002 = m 1002 := by rw [up_off _ _ (by decide), up_off _ _ (by decide), up_off _ _ (by decide)]
    have lo : ∀ n, n ≠ 0 → n ≠ 8 → n ≠ 9 → n ≠ 1000 → n ≠ 1002 → (up (up (up m 1000 19 (nI 0)) 1000 1 0) 1000 2 (-1)) n = mi n := fun n n0 n8 n9 k0 k4 => (lc n k0 k4).trans (hlo n n0 n8 n9)
    have l0 : ∀ j, j ≠ 0 → j ≠ 1 → j ≠ 2 → j ≠ 19 → (up (up (up m 1000 19 (nI 0)) 1000 1 0) 1000 2 (-1)) 1000 j = mi 1000 j := fun j j0 j1 j2 j9 => by rw [up_ne _ _ j2, up_ne _ _ j1, up_ne _ _ j9, o1 1000 (by decide), up_ne _ _ j0]; rw [hlo 1000 (by decide) (by decide) (by decide)]
    refine zmk (v' := u) Z C (fun n n0 n8 n9 n10 n11 hn => lo n n0 n8 n9 (by omega) (by omega)) (fun j hj => ?_) ?_ (fun n hn n2 n3 n4 => lo n (by omega) (by omega) (by omega) (by omega) n2) (fun j j0 j1 j2 j9 _ => l0 j j0 j1 j2 j9) (by rw [up_ne _ _ (by decide), up_at]) (up_at _ _ _ _) ?_ ⟨0, w0, ?_, ?_, by omega, ?_, a5, fun j hj => absurd hj (Nat.not_lt_zero _)⟩ ⟨n0, ?_, ?_, n3, fun j hj => ?_⟩
    · rw [lc 0 (by decide) (by decide), up_ne _ _ hj, up_off _ _ (by decide), cpm_off _ (by decide)]
    · rw [lc 0 (by decide) (by decide), up_at]
    · refine (hu.cg C.W (fun i hi => ?_) (fun i hi => ?_)).le (Nat.le_succ c)
      · rw [lc 9 (by decide) (by decide), h9 i hi]
      · rw [e2, o2 i hi, up_off _ _ (by decide), hlo 1004 (by decide) (by decide) (by decide)]
    · rw [lc 8 (by decide) (by decide), up_off _ _ (by decide), up_at]; rfl
    · rw [up_ne _ _ (by decide), up_ne _ _ (by decide), up_at]
    · rw [lc 8 (by decide) (by decide), h8 4 (by decide)]; exact a4
    · rw [lc 8 (by decide) (by decide), h8 1 (by decide)]; exact n1
    · rw [l0 20 (by decide) (by decide) (by decide) (by decide)]; exact n2
    · rw [lo 11 (by decide) (by decide) (by decide) (by decide) (by decide), lo 1004 (by decide) (by decide) (by decide) (by decide) (by decide)]
      obtain ⟨u2, hu2⟩ := n4 j hj
      exact ⟨u2, hu2.le (Nat.le_succ c)⟩
end DUO8
