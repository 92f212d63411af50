/-! the law's calls, two and two: those whose ends say more -/
section DUO2
variable {G : GG} {c T T' M : Nat} {t : TW} {v : Nat → Nat} {mi m m1 : MI} {ml : ML} {mr : MR} {dom : List Nat} {e : Int32}
theorem fc3 (hT : TT T) (h : off3 17 18 19 m mi) : FC T mi (up m 0 9 e) := (FC.of (S := [17, 18, 19]) hT (by decide) (fun a ha => h a (fun q => ha (by subst q; decide)) (fun q => ha (by subst q; decide)) (fun q => ha (by subst q; decide)))).u9 hT
theorem fc2 (hT : TT T) (h : off2 21 22 m mi) : FC T mi (up m 0 9 e) := (FC.of (S := [21, 22]) hT (by decide) (fun a ha => h a (fun q => ha (by subst q; decide)) (fun q => ha (by subst q; decide)))).u9 hT
theorem fc1 (hT : TT T) (h : off1 16 m mi) : FC T mi (up m 0 9 e) := (FC.of (S := [16]) hT (by decide) (fun a ha => h a (fun q => ha (by subst q; decide)))).u9 hT
theorem fcC (hT : TT T) (h : offC m mi) : FC T mi (up m 0 9 e) := (FC.of (S := [12, 13, 14, 15, 16]) hT (by decide) (fun a ha => h a (fun q => ha (by subst q; decide)) (fun q => ha (by subst q; decide)) (fun q => ha (by subst q; decide)) (fun q => ha (by subst q; decide)) (fun q => ha (by subst q; decide)))).u9 hT
theorem fcT (hT : TT T) (h : off1 (T + 9) m mi) : FC T mi (up m 0 9 e) := by
  have b := hT.b
  refine FC.u9 ⟨fun a _ _ h9 _ => h a h9, fun j _ => by rw [h 0 (by omega)], fun j _ => by rw [h _ (by omega)]⟩ hT
theorem fcr (hT : TT T) (x : Int32) : FC T mi (up (up mi (T + 2) 3 x) 0 9 e) := by
  have b := hT.b
  refine FC.u9 ⟨fun a _ _ _ h2 => up_off _ _ h2, fun j _ => by rw [up_off _ _ (by omega)], fun j hj => up_ne _ _ hj⟩ hT
theorem fnF (h1 : ∀ z, z ≠ 1000 → z ≠ 1011 → z ≠ 1012 → m z = mi z) (h2 : ∀ j, j ≠ 0 → j ≠ 30 → m 1000 j = mi 1000 j) : FN mi m := ⟨fun a ha hb => h1 a ha (by omega) (by omega), fun j b0 _ b2 _ => h2 j b0 b2⟩
theorem fn5 (h1 : ∀ z, z ≠ 1000 → z ≠ 1005 → z ≠ 1006 → z ≠ 1007 → z ≠ 1008 → z ≠ 1009 → m z = mi z) (h2 : ∀ j, j ≠ 0 → j ≠ 26 → m 1000 j = mi 1000 j) : FN mi m := ⟨fun a ha hb => h1 a ha (by omega) (by omega) (by omega) (by omega) (by omega), fun j b0 b1 _ _ => h2 j b0 b1⟩
theorem fn6 (h1 : ∀ z, z ≠ 1000 → z ≠ 1005 → z ≠ 1006 → m z = mi z) (h2 : ∀ j, j ≠ 0 → m 1000 j = mi 1000 j) : FN mi m := ⟨fun a ha hb => h1 a ha (by omega) (by omega), fun j b0 _ _ _ => h2 j b0⟩
theorem fnd (h1 : off1 1000 m mi) (h2 : ∀ j, j ≠ 0 → j ≠ 31 → m 1000 j = mi 1000 j) : FN mi m := ⟨fun a ha _ => h1 a ha, fun j b0 _ _ b3 => h2 j b0 b3⟩
theorem fnr {x : Int32} (h1 : off1 1010 m (up mi 1000 0 x)) : FN mi m := ⟨fun a ha hb => (h1 a (by omega)).trans (up_off _ _ ha), fun j b0 _ _ _ => by rw [h1 1000 (by decide), up_ne _ _ b0]⟩
theorem zC.w {W : Nat → Nat} (h : zC mi) (h15 : m 15 = mi 15) (hW : le6 W) (h16 : ∀ i, i < 192 → m 16 i = nI (W i)) : zC (up m 0 9 e) := ⟨fun p hp => by rw [up_off _ _ (by decide), h15]; exact h.1 p hp, W, hW, fun i hi => by rw [up_off _ _ (by decide)]; exact h16 i hi⟩
theorem tells_u {a b a' b' : Nat} (h1 : b < 8) (h1' : b' < 8) (h2 : popc b = a) (h2' : popc b' = a') (h3 : unl t b = true) (h3' : unl t b' = true) (h4 : ∀ a2 b2, b2 < 8 → (a2 < a ∨ a2 = a ∧ b2 < b) → popc b2 = a2 → unl t b2 = false) (h4' : ∀ a2 b2, b2 < 8 → (a2 < a' ∨ a2 = a' ∧ b2 < b') → popc b2 = a2 → unl t b2 = false) : b = b' := by
  rcases Nat.lt_trichotomy a a' with q | q | q
  · exact absurd (h4' a b h1 (Or.inl q) h2) (by rw [h3]; decide)
  · rcases Nat.lt_trichotomy b b' with r | r | r
    · exact absurd (h4' a b h1 (Or.inr ⟨q, r⟩) h2) (by rw [h3]; decide)
    · exact r
    · exact absurd (h4 a' b' h1' (Or.inr ⟨q.symm, r⟩) h2') (by rw [h3']; decide)
  · exact absurd (h4 a' b' h1' (Or.inl q) h2') (by rw [h3']; decide)
theorem rest_u {x y x' y' : Nat} (hy : y < 6) (hy' : y' < 6) (h3 : rst t x y = true) (h3' : rst t x' y' = true) (h4 : ∀ a b, b < 6 → (a < x ∨ a = x ∧ b < y) → rst t a b = false) (h4' : ∀ a b, b < 6 → (a < x' ∨ a = x' ∧ b < y') → rst t a b = false) : x = x' ∧ y = y' := by
  rcases Nat.lt_trichotomy x x' with q | q | q
  · exact absurd (h4' x y hy (Or.inl q)) (by rw [h3]; decide)
  · rcases Nat.lt_trichotomy y y' with r | r | r
    · exact absurd (h4' x y hy (Or.inr ⟨q, r⟩)) (by rw [h3]; decide)
    · exact ⟨q, r⟩
    · exact absurd (h4 x' y' hy' (Or.inr ⟨q.symm, r⟩)) (by rw [h3']; decide)
  · exact absurd (h4 x' y' hy' (Or.inl q)) (by rw [h3']; decide)
end DUO2
section DUO3
variable {G : GG} {c : Nat} {mi : MI} {ml : ML} {mr : MR} {dom : List Nat}
theorem du_tells (hc : c < 99999) (hZ : LAZ c mi ml mr dom) : DU G c yX11_tells cX11_tells 3 (some .int) [.ref 0] yX13_tells cX13_tells 3 (some .int) [.ref 1000] mi ml mr dom := by
  obtain ⟨T, T', t, Z⟩ := hZ
  intro K hK
  rcases zcase Z with ⟨rfl, U⟩ | ⟨M, v, C⟩
  · exact ⟨2, by decide, cx_tellsN U.X U.tT U.Tn U.W U.R U.h0 (hK _ _ _ _ _ (fun K2 h2 => ⟨3, by decide, mx_tellsN U.TM  (h2 _ _ _ _ ⟨_, _, _, zrf Z (fc9 U.tT _ 1) (up_at _ _ _ _) (by decide) (Z.c9 rfl rfl)⟩)⟩))⟩
  · have w := C.W.1
    exact ⟨3, by decide, cx_tells C.X C.tT C.Tn C.W C.R C.h0 ⟨fun a b q1 q2 q3 q4 q5 => (hK _ _ _ _ _ (fun K2 h2 => ⟨3, by decide, mx_tells C.xm C.mm C.xt C.TM C.G C.W (C.rm (fc9 C.tT _ 0))  ⟨fun a' b' p1 p2 p3 p4 p5 => by rw [tells_u p2 q2 p3 q3 p4 q4 p5 q5]; exact h2 _ _ _ _ ⟨_, _, _, zrf Z (fc9 C.tT _ 0) (up_at _ _ _ _) (by decide) (Z.c9 rfl rfl)⟩, fun pn => absurd (pn a b q1 q2 q3) (by rw [q4]; decide)⟩⟩)), fun qn => (hK _ _ _ _ _ (fun K2 h2 => ⟨3, by decide, mx_tells C.xm C.mm C.xt C.TM C.G C.W (C.rm (fc9 C.tT _ 0))  ⟨fun a' b' p1 p2 p3 p4 p5 => absurd (qn a' b' p1 p2 p3) (by rw [p4]; decide), fun _ => (h2 _ _ _ _ ⟨_, _, _, zrf Z (fc9 C.tT _ 0) (up_at _ _ _ _) (by decide) (Z.c9 rfl rfl)⟩)⟩⟩))⟩⟩
theorem du_leastSill (hc : c < 99999) (hZ : LAZ c mi ml mr dom) : DU G c yX11_leastSill cX11_leastSill 2 (some .int) [.ref 0] yX13_leastSill cX13_leastSill 2 (some .int) [.ref 1000] mi ml mr dom := by
  obtain ⟨T, T', t, Z⟩ := hZ
  intro K hK
  rcases zcase Z with ⟨rfl, U⟩ | ⟨M, v, C⟩
  · exact ⟨2, by decide, cx_leastSillN U.X U.tT U.Tn U.W U.R U.h0 (hK _ _ _ _ _ (fun K2 h2 => ⟨3, by decide, mx_leastSillN U.TM  (h2 _ _ _ _ ⟨_, _, _, zrf Z (fc9 U.tT _ 1) (up_at _ _ _ _) (by decide) (Z.c9 rfl rfl)⟩)⟩))⟩
  · have w := C.W.1
    exact ⟨5, by decide, cx_leastSill C.X C.tT C.Tn C.W C.R C.h0 ⟨fun s q1 q2 q3 q4 => (hK _ _ _ _ _ (fun K2 h2 => ⟨5, by decide, mx_leastSill C.xm C.mm C.xt C.TM C.G C.W (C.rm (fc9 C.tT _ 0))  ⟨fun s' p1 p2 p3 p4 => by
            have e : s' = s := by
              rcases Nat.lt_trichotomy s' s with r | r | r
              · exact absurd p3 (q4 s' p1 r)
              · exact r
              · exact absurd q3 (p4 s q1 r)
            rw [e]; exact h2 _ _ _ _ ⟨_, _, _, zrf Z (fc9 C.tT _ 0) (up_at _ _ _ _) (by decide) (Z.c9 rfl rfl)⟩, fun pn => absurd q3 (pn s q1 q2)⟩⟩)), fun qn => (hK _ _ _ _ _ (fun K2 h2 => ⟨5, by decide, mx_leastSill C.xm C.mm C.xt C.TM C.G C.W (C.rm (fc9 C.tT _ 0))  ⟨fun s' p1 p2 p3 p4 => absurd p3 (qn s' p1 p2), fun _ => (h2 _ _ _ _ ⟨_, _, _, zrf Z (fc9 C.tT _ 0) (up_at _ _ _ _) (by decide) (Z.c9 rfl rfl)⟩)⟩⟩))⟩⟩
theorem du_rests (hc : c < 99999) (hZ : LAZ c mi ml mr dom) : DU G c yX11_rests cX11_rests 4 (some .int) [.ref 0] yX13_rests cX13_rests 3 (some .int) [.ref 1000] mi ml mr dom := by
  obtain ⟨T, T', t, Z⟩ := hZ
  intro K hK
  rcases zcase Z with ⟨rfl, U⟩ | ⟨M, v, C⟩
  · exact ⟨2, by decide, cx_restsN U.X U.tT U.Tn U.W U.R U.h0 (hK _ _ _ _ _ (fun K2 h2 => ⟨3, by decide, mx_restsN U.TM  (h2 _ _ _ _ ⟨_, _, _, zrf Z (fc9 U.tT _ 1) (up_at _ _ _ _) (by decide) (Z.c9 rfl rfl)⟩)⟩))⟩
  · have w := C.W.1
    exact ⟨4, by decide, cx_rests C.X C.tT C.Tn C.W C.R C.h0 (fun m hm => (hK _ _ _ _ _ (fun K2 h2 => ⟨4, by decide, mx_rests C.xm C.mm C.xt C.TM C.G C.W (C.rm (fc2 C.tT hm))  (h2 _ _ _ _ ⟨_, _, _, zrf Z (fc2 C.tT hm) (up_at _ _ _ _) (by decide) (Z.c9 (hm 15 (by decide) (by decide)) (hm 16 (by decide) (by decide)))⟩)⟩)))⟩
theorem du_rest (hc : c < 99999) (hZ : LAZ c mi ml mr dom) : DU G c yX11_rest cX11_rest 3 (some .int) [.ref 0] yX13_rest cX13_rest 2 (some .int) [.ref 1000] mi ml mr dom := by
  obtain ⟨T, T', t, Z⟩ := hZ
  intro K hK
  rcases zcase Z with ⟨rfl, U⟩ | ⟨M, v, C⟩
  · exact ⟨2, by decide, cx_restN U.X U.tT U.Tn U.W U.R U.h0 (hK _ _ _ _ _ (fun K2 h2 => ⟨3, by decide, mx_restN U.TM  (h2 _ _ _ _ ⟨_, _, _, zrf Z (fc9 U.tT _ 1) (up_at _ _ _ _) (by decide) (Z.c9 rfl rfl)⟩)⟩))⟩
  · have w := C.W.1
    exact ⟨4, by decide, cx_rest C.X C.tT C.Tn C.W C.R C.h0 (fun m hm => ⟨fun x y q1 q2 q3 q4 => (hK _ _ _ _ _ (fun K2 h2 => ⟨4, by decide, mx_rest C.xm C.mm C.xt C.TM C.G C.W (C.rm (fc2 C.tT hm))  ⟨fun x' y' p1 p2 p3 p4 => by obtain ⟨e1, e2⟩ := rest_u p2 q2 p3 q3 p4 q4; rw [e1, e2]; exact h2 _ _ _ _ ⟨_, _, _, zrf Z (fc2 C.tT hm) (up_at _ _ _ _) (by decide) (Z.c9 (hm 15 (by decide) (by decide)) (hm 16 (by decide) (by decide)))⟩, fun pn => absurd (pn x y q1 q2) (by rw [q3]; decide)⟩⟩)), fun qn => (hK _ _ _ _ _ (fun K2 h2 => ⟨4, by decide, mx_rest C.xm C.mm C.xt C.TM C.G C.W (C.rm (fc2 C.tT hm))  ⟨fun x' y' p1 p2 p3 p4 => absurd (qn x' y' p1 p2) (by rw [p3]; decide), fun _ => (h2 _ _ _ _ ⟨_, _, _, zrf Z (fc2 C.tT hm) (up_at _ _ _ _) (by decide) (Z.c9 (hm 15 (by decide) (by decide)) (hm 16 (by decide) (by decide)))⟩)⟩⟩))⟩)⟩
theorem du_hands {a : Int32} (hc : c < 99999) (hZ : LAZ c mi ml mr dom) : DU G c yX11_hands cX11_hands 3 (some .int) [.ref 0, .int a] yX13_hands cX13_hands 4 (some .int) [.ref 1000, .int a] mi ml mr dom := by
  obtain ⟨T, T', t, Z⟩ := hZ
  intro K hK
  rcases zcase Z with ⟨rfl, U⟩ | ⟨M, v, C⟩
  · exact ⟨2, by decide, cx_handsB U.X U.tT U.Tn U.W U.R (bad00 _ _ _) (hK _ _ _ _ _ (fun K2 h2 => ⟨3, by decide, mx_handsN U.TM  (h2 _ _ _ _ ⟨_, _, _, zrf Z (fc9 U.tT _ 1) (up_at _ _ _ _) (by decide) (Z.c9 rfl rfl)⟩)⟩))⟩
  · have w := C.W.1
    have b := C.tT.b
    rcases bad_or a (t 0 6) (by omega) with hb0 | ⟨g, hk0, rfl⟩
    · exact ⟨2, by decide, cx_handsB C.X C.tT C.Tn C.W C.R hb0 (hK _ _ _ _ _ (fun K2 h2 => ⟨5, by decide, mx_handsB C.xm C.mm C.xt C.TM C.G C.W (C.rm (fc9 C.tT _ 1)) hb0 (h2 _ _ _ _ ⟨_, _, _, zrf Z (fc9 C.tT _ 1) (up_at _ _ _ _) (by decide) (Z.c9 rfl rfl)⟩)⟩))⟩
    exact ⟨4, by decide, cx_hands C.X C.tT C.Tn C.W C.R hk0 C.gp C.L.2.2.1 (fun m hm => (hK _ _ _ _ _ (fun K2 h2 => ⟨5, by decide, mx_hands C.xm C.mm C.xt C.TM C.G C.W (C.rm (fcT C.tT hm)) (C.vm hc (fcT C.tT hm)) C.L.2.2.1 hk0 (h2 _ _ _ _ ⟨_, _, _, zrf Z (fcT C.tT hm) (up_at _ _ _ _) (by decide) (Z.c9 (hm 15 (by omega)) (hm 16 (by omega)))⟩)⟩)))⟩
theorem du_round {a : Int32} (hc : c < 99999) (hZ : LAZ c mi ml mr dom) : DU G c yX11_round cX11_round 2 (some .int) [.ref 0, .int a] yX13_round cX13_round 5 (some .int) [.ref 1000, .int a] mi ml mr dom := by
  obtain ⟨T, T', t, Z⟩ := hZ
  intro K hK
  rcases zcase Z with ⟨rfl, U⟩ | ⟨M, v, C⟩
  · exact ⟨2, by decide, cx_roundB U.X U.tT U.Tn U.W U.R (bad00 _ _ _) (hK _ _ _ _ _ (fun K2 h2 => ⟨3, by decide, mx_roundN U.TM  (h2 _ _ _ _ ⟨_, _, _, zrf Z (fc9 U.tT _ 1) (up_at _ _ _ _) (by decide) (Z.c9 rfl rfl)⟩)⟩))⟩
  · have w := C.W.1
    have b := C.tT.b
    rcases bad_or a (t 0 3) (by omega) with hb0 | ⟨h, hk0, rfl⟩
    · exact ⟨2, by decide, cx_roundB C.X C.tT C.Tn C.W C.R hb0 (hK _ _ _ _ _ (fun K2 h2 => ⟨3, by decide, mx_roundB C.xm C.mm C.xt C.TM C.G C.W (C.rm (fc9 C.tT _ 1)) hb0 (h2 _ _ _ _ ⟨_, _, _, zrf Z (fc9 C.tT _ 1) (up_at _ _ _ _) (by decide) (Z.c9 rfl rfl)⟩)⟩))⟩
    exact ⟨10, by decide, cx_round C.X C.tT C.Tn C.W C.R hk0 (hK _ _ _ _ _ (fun K2 h2 => ⟨3, by decide, mx_round C.xm C.mm C.xt C.TM C.G C.W (C.rm (fcr C.tT _)) C.L C.D hk0 (fun m2 hm2 => (h2 _ _ _ _ ⟨_, _, _, zup Z (fcr C.tT _) (fnr hm2) (up_at _ _ _ _) (by decide) (Z.c9 (up_off _ _ (by omega)) (up_off _ _ (by omega)))⟩))⟩))⟩
theorem du_fits (hc : c < 99999) (hZ : LAZ c mi ml mr dom) : DU G c yX11_fits cX11_fits 1 (some .int) [.ref 0] yX13_fits cX13_fits 2 (some .int) [.ref 1000] mi ml mr dom := by
  obtain ⟨T, T', t, Z⟩ := hZ
  intro K hK
  rcases zcase Z with ⟨rfl, U⟩ | ⟨M, v, C⟩
  · exact ⟨2, by decide, cx_fitsN U.X U.tT U.Tn U.W U.R U.h0 (hK _ _ _ _ _ (fun K2 h2 => ⟨4, by decide, mx_fitsN U.TM  (h2 _ _ _ _ ⟨_, _, _, zrf Z (fc9 U.tT _ 1) (up_at _ _ _ _) (by decide) (Z.c9 rfl rfl)⟩)⟩))⟩
  · have w := C.W.1
    rcases Nat.eq_zero_or_pos (t 0 8) with h8 | h8
    · exact ⟨2, by decide, cx_fitsE C.X C.tT C.Tn C.W C.R C.h0 h8 (hK _ _ _ _ _ (fun K2 h2 => ⟨4, by decide, mx_fitsE C.xm C.mm C.xt C.TM C.G C.W (C.rm (fc9 C.tT _ 6)) h8 (h2 _ _ _ _ ⟨_, _, _, zrf Z (fc9 C.tT _ 6) (up_at _ _ _ _) (by decide) (Z.c9 rfl rfl)⟩)⟩))⟩
    · exact ⟨11, by decide, cx_fits C.X C.tT C.Tn C.W C.R C.h0 h8 (fun m hm _ _ => (hK _ _ _ _ _ (fun K2 h2 => ⟨4, by decide, mx_fits C.xm C.mm C.xt C.TM C.G C.W (C.rm (fc3 C.tT hm)) h8 (fun m2 g1 g2 g3 => (h2 _ _ _ _ ⟨_, _, _, zup Z (fc3 C.tT hm) (fnF g1 g2) (up_at _ _ _ _) (by decide) (Z.c9 (hm 15 (by decide) (by decide) (by decide)) (hm 16 (by decide) (by decide) (by decide)))⟩))⟩)))⟩
theorem du_could {a : Int32} (hc : c < 99999) (hZ : LAZ c mi ml mr dom) : DU G c yX11_could cX11_could 2 (some .int) [.ref 0, .int a] yX13_could cX13_could 2 (some .int) [.ref 1000, .int a] mi ml mr dom := by
  obtain ⟨T, T', t, Z⟩ := hZ
  intro K hK
  rcases zcase Z with ⟨rfl, U⟩ | ⟨M, v, C⟩
  · exact ⟨2, by decide, cx_couldB U.X U.tT U.Tn U.W U.R (bad00 _ _ _) (hK _ _ _ _ _ (fun K2 h2 => ⟨3, by decide, mx_couldN U.TM  (h2 _ _ _ _ ⟨_, _, _, zrf Z (fc9 U.tT _ 1) (up_at _ _ _ _) (by decide) (Z.c9 rfl rfl)⟩)⟩))⟩
  · have w := C.W.1
    rcases bad_or a (t 0 8) (by omega) with hb0 | ⟨k, hk0, rfl⟩
    · exact ⟨2, by decide, cx_couldB C.X C.tT C.Tn C.W C.R hb0 (hK _ _ _ _ _ (fun K2 h2 => ⟨4, by decide, mx_couldB C.xm C.mm C.xt C.TM C.G C.W (C.rm (fc9 C.tT _ 1)) hb0 (h2 _ _ _ _ ⟨_, _, _, zrf Z (fc9 C.tT _ 1) (up_at _ _ _ _) (by decide) (Z.c9 rfl rfl)⟩)⟩))⟩
    exact ⟨11, by decide, cx_could C.X C.tT C.Tn C.W C.R hk0 (fun i => Nat.lt_of_le_of_lt (wfK_b C.W i) (by decide)) (fun m hm _ _ => (hK _ _ _ _ _ (fun K2 h2 => ⟨4, by decide, mx_could C.xm C.mm C.xt C.TM C.G C.W (C.rm (fc3 C.tT hm)) hk0 (fun m2 g1 g2 g3 => (h2 _ _ _ _ ⟨_, _, _, zup Z (fc3 C.tT hm) (fnF g1 g2) (up_at _ _ _ _) (by decide) (Z.c9 (hm 15 (by decide) (by decide) (by decide)) (hm 16 (by decide) (by decide) (by decide)))⟩))⟩)))⟩
theorem du_surely {a : Int32} (hc : c < 99999) (hZ : LAZ c mi ml mr dom) : DU G c yX11_surely cX11_surely 2 (some .int) [.ref 0, .int a] yX13_surely cX13_surely 3 (some .int) [.ref 1000, .int a] mi ml mr dom := by
  obtain ⟨T, T', t, Z⟩ := hZ
  intro K hK
  rcases zcase Z with ⟨rfl, U⟩ | ⟨M, v, C⟩
  · exact ⟨2, by decide, cx_surelyB U.X U.tT U.Tn U.W U.R (bad00 _ _ _) (hK _ _ _ _ _ (fun K2 h2 => ⟨3, by decide, mx_surelyN U.TM  (h2 _ _ _ _ ⟨_, _, _, zrf Z (fc9 U.tT _ 1) (up_at _ _ _ _) (by decide) (Z.c9 rfl rfl)⟩)⟩))⟩
  · have w := C.W.1
    rcases bad_or a (t 0 8) (by omega) with hb0 | ⟨k, hk0, rfl⟩
    · exact ⟨2, by decide, cx_surelyB C.X C.tT C.Tn C.W C.R hb0 (hK _ _ _ _ _ (fun K2 h2 => ⟨4, by decide, mx_surelyB C.xm C.mm C.xt C.TM C.G C.W (C.rm (fc9 C.tT _ 1)) hb0 (h2 _ _ _ _ ⟨_, _, _, zrf Z (fc9 C.tT _ 1) (up_at _ _ _ _) (by decide) (Z.c9 rfl rfl)⟩)⟩))⟩
    exact ⟨11, by decide, cx_surely C.X C.tT C.Tn C.W C.R hk0 (fun i => Nat.lt_of_le_of_lt (wfK_b C.W i) (by decide)) (fun m hm _ _ => ⟨fun p p1 p2 => (hK _ _ _ _ _ (fun K2 h2 => ⟨4, by decide, mx_surely C.xm C.mm C.xt C.TM C.G C.W (C.rm (fc3 C.tT hm)) hk0 (fun m2 g1 g2 g3 => ⟨fun p' q1 q2 => by rw [(Nat.pow_right_inj (show 1 < 2 by decide)).mp (q2.symm.trans p2)]; exact h2 _ _ _ _ ⟨_, _, _, zup Z (fc3 C.tT hm) (fnF g1 g2) (up_at _ _ _ _) (by decide) (Z.c9 (hm 15 (by decide) (by decide) (by decide)) (hm 16 (by decide) (by decide) (by decide)))⟩, fun qn => absurd p2 (qn p p1)⟩)⟩)), fun pn => (hK _ _ _ _ _ (fun K2 h2 => ⟨4, by decide, mx_surely C.xm C.mm C.xt C.TM C.G C.W (C.rm (fc3 C.tT hm)) hk0 (fun m2 g1 g2 g3 => ⟨fun p' q1 q2 => absurd q2 (pn p' q1), fun _ => (h2 _ _ _ _ ⟨_, _, _, zup Z (fc3 C.tT hm) (fnF g1 g2) (up_at _ _ _ _) (by decide) (Z.c9 (hm 15 (by decide) (by decide) (by decide)) (hm 16 (by decide) (by decide) (by decide)))⟩)⟩)⟩))⟩)⟩
theorem du_ask (hc : c < 99999) (hZ : LAZ c mi ml mr dom) : DU G c yX11_ask cX11_ask 3 (some .int) [.ref 0] yX13_ask cX13_ask 7 (some .int) [.ref 1000] mi ml mr dom := by
  obtain ⟨T, T', t, Z⟩ := hZ
  intro K hK
  rcases zcase Z with ⟨rfl, U⟩ | ⟨M, v, C⟩
  · exact ⟨2, by decide, cx_askN U.X U.tT U.Tn U.W U.R U.h0 (hK _ _ _ _ _ (fun K2 h2 => ⟨4, by decide, mx_askN U.TM  (h2 _ _ _ _ ⟨_, _, _, zrf Z (fc9 U.tT _ 1) (up_at _ _ _ _) (by decide) (Z.c9 rfl rfl)⟩)⟩))⟩
  · have w := C.W.1
    rcases Nat.eq_zero_or_pos (t 0 8) with h8 | h8
    · exact ⟨2, by decide, cx_askE C.X C.tT C.Tn C.W C.R C.h0 h8 (hK _ _ _ _ _ (fun K2 h2 => ⟨4, by decide, mx_askE C.xm C.mm C.xt C.TM C.G C.W (C.rm (fc9 C.tT _ 6)) h8 (h2 _ _ _ _ ⟨_, _, _, zrf Z (fc9 C.tT _ 6) (up_at _ _ _ _) (by decide) (Z.c9 rfl rfl)⟩)⟩))⟩
    · by_cases hz : pro (nrk t) (t 0 8) = 0
      · exact ⟨11, by decide, cx_ask0 C.X C.tT C.Tn C.W C.R C.h0 h8 hz (fun m hm _ _ => (hK _ _ _ _ _ (fun K2 h2 => ⟨4, by decide, mx_ask C.xm C.mm C.xt C.TM C.G C.W (C.rm (fc3 C.tT hm)) h8 ⟨fun _ m2 g1 g2 g3 => (h2 _ _ _ _ ⟨_, _, _, zup Z (fc3 C.tT hm) (fnF g1 g2) (up_at _ _ _ _) (by decide) (Z.c9 (hm 15 (by decide) (by decide) (by decide)) (hm 16 (by decide) (by decide) (by decide)))⟩), fun q => absurd hz q⟩⟩)))⟩
      · exact ⟨11, by decide, cx_ask C.X C.tT C.Tn C.W C.R C.h0 h8 hz (Nat.lt_of_le_of_lt (rows_b C.W) (by decide)) (fun i => Nat.lt_of_le_of_lt (wfK_b C.W i) (by decide)) (fun m hm _ _ => (hK _ _ _ _ _ (fun K2 h2 => ⟨4, by decide, mx_ask C.xm C.mm C.xt C.TM C.G C.W (C.rm (fc3 C.tT hm)) h8 ⟨fun q => absurd q hz, fun _ m2 g1 g2 g3 => (h2 _ _ _ _ ⟨_, _, _, zup Z (fc3 C.tT hm) (fnF g1 g2) (up_at _ _ _ _) (by decide) (Z.c9 (hm 15 (by decide) (by decide) (by decide)) (hm 16 (by decide) (by decide) (by decide)))⟩)⟩⟩)))⟩
theorem du_day {a : Int32} (hc : c < 99999) (hZ : LAZ c mi ml mr dom) : DU G c yX11_day cX11_day 2 (some .int) [.ref 0, .int a] yX13_day cX13_day 2 (some .int) [.ref 1000, .int a] mi ml mr dom := by
  obtain ⟨T, T', t, Z⟩ := hZ
  intro K hK
  rcases zcase Z with ⟨rfl, U⟩ | ⟨M, v, C⟩
  · exact ⟨2, by decide, cx_dayN U.X U.tT U.Tn U.W U.R U.h0 (hK _ _ _ _ _ (fun K2 h2 => ⟨3, by decide, mx_dayN U.TM  (h2 _ _ _ _ ⟨_, _, _, zrf Z (fc9 U.tT _ 1) (up_at _ _ _ _) (by decide) (Z.c9 rfl rfl)⟩)⟩))⟩
  · have w := C.W.1
    rcases bad_or a (65537) (by omega) with hb0 | ⟨s, hk0, rfl⟩
    · exact ⟨2, by decide, cx_dayB C.X C.tT C.Tn C.W C.R C.h0 hb0 (hK _ _ _ _ _ (fun K2 h2 => ⟨4, by decide, mx_dayB C.xm C.mm C.xt C.TM C.G C.W (C.rm (fc9 C.tT _ 2)) hb0 (h2 _ _ _ _ ⟨_, _, _, zrf Z (fc9 C.tT _ 2) (up_at _ _ _ _) (by decide) (Z.c9 rfl rfl)⟩)⟩))⟩
    exact ⟨4, by decide, cx_day C.X C.tT C.Tn C.W C.R C.h0 C.L hk0 (hK _ _ _ _ _ (fun K2 h2 => ⟨4, by decide, mx_day C.xm C.mm C.xt C.TM C.G C.W (C.rm (fc9 C.tT _ 0)) C.L (by omega) (fun m2 g1 g2 g3 => by rw [Nat.one_mul] at h2; exact h2 _ _ _ _ ⟨_, _, _, zup Z (fc9 C.tT _ 0) (fnd g1 g2) (up_at _ _ _ _) (by decide) (Z.c9 rfl rfl)⟩)⟩))⟩
theorem du_dayOf {a b d : Int32} (hc : c < 99999) (hZ : LAZ c mi ml mr dom) : DU G c yX11_dayOf cX11_dayOf 4 (some .int) [.ref 0, .int a, .int b, .int d] yX13_dayOf cX13_dayOf 6 (some .int) [.ref 1000, .int a, .int b, .int d] mi ml mr dom := by
  obtain ⟨T, T', t, Z⟩ := hZ
  intro K hK
  rcases zcase Z with ⟨rfl, U⟩ | ⟨M, v, C⟩
  · exact ⟨2, by decide, cx_dayOfB U.X U.tT U.Tn U.W U.R (bad00 _ _ _) (hK _ _ _ _ _ (fun K2 h2 => ⟨3, by decide, mx_dayOfN U.TM  (h2 _ _ _ _ ⟨_, _, _, zrf Z (fc9 U.tT _ 1) (up_at _ _ _ _) (by decide) (Z.c9 rfl rfl)⟩)⟩))⟩
  · have w := C.W.1
    rcases bad_or a (t 0 5) (by omega) with hb0 | ⟨p, hk0, rfl⟩
    · exact ⟨2, by decide, cx_dayOfB C.X C.tT C.Tn C.W C.R hb0 (hK _ _ _ _ _ (fun K2 h2 => ⟨4, by decide, mx_dayOfB C.xm C.mm C.xt C.TM C.G C.W (C.rm (fc9 C.tT _ 1)) hb0 (h2 _ _ _ _ ⟨_, _, _, zrf Z (fc9 C.tT _ 1) (up_at _ _ _ _) (by decide) (Z.c9 rfl rfl)⟩)⟩))⟩
    rcases bad_or b (65537) (by omega) with hb1 | ⟨s, hk1, rfl⟩
    · exact ⟨2, by decide, cx_dayOfB2 C.X C.tT C.Tn C.W C.R hk0 hb1 (hK _ _ _ _ _ (fun K2 h2 => ⟨4, by decide, mx_dayOfB2 C.xm C.mm C.xt C.TM C.G C.W (C.rm (fc9 C.tT _ 2)) hk0 hb1 (h2 _ _ _ _ ⟨_, _, _, zrf Z (fc9 C.tT _ 2) (up_at _ _ _ _) (by decide) (Z.c9 rfl rfl)⟩)⟩))⟩
    rcases bad_or d 21 (by decide) with hb2 | ⟨n, hk2, rfl⟩
    · have hb3 : d < 1 ∨ 20 < d := by
        rcases hb2 with h | h
        · exact Or.inl (Int32.lt_trans h (by decide))
        · exact Or.inr (Int32.lt_of_lt_of_le (by decide) h)
      exact ⟨2, by decide, cx_dayOfB3 C.X C.tT C.Tn C.W C.R hk0 hk1 hb3 (hK _ _ _ _ _ (fun K2 h2 => ⟨4, by decide, mx_dayOfB3 C.xm C.mm C.xt C.TM C.G C.W (C.rm (fc9 C.tT _ 2)) hk0 (by omega) hb3 (h2 _ _ _ _ ⟨_, _, _, zrf Z (fc9 C.tT _ 2) (up_at _ _ _ _) (by decide) (Z.c9 rfl rfl)⟩)⟩))⟩
    · rcases Nat.eq_zero_or_pos n with rfl | hn
      · have hb3 : nI 0 < 1 ∨ 20 < nI 0 := Or.inl (by decide)
        exact ⟨2, by decide, cx_dayOfB3 C.X C.tT C.Tn C.W C.R hk0 hk1 hb3 (hK _ _ _ _ _ (fun K2 h2 => ⟨4, by decide, mx_dayOfB3 C.xm C.mm C.xt C.TM C.G C.W (C.rm (fc9 C.tT _ 2)) hk0 (by omega) hb3 (h2 _ _ _ _ ⟨_, _, _, zrf Z (fc9 C.tT _ 2) (up_at _ _ _ _) (by decide) (Z.c9 rfl rfl)⟩)⟩))⟩
      · exact ⟨4, by decide, cx_dayOf C.X C.tT C.Tn C.W C.R C.L hk0 hk1 hn (by omega) (hK _ _ _ _ _ (fun K2 h2 => ⟨4, by decide, mx_dayOf C.xm C.mm C.xt C.TM C.G C.W (C.rm (fc9 C.tT _ 0)) C.L hk0 (by omega) hn (by omega) (fun m2 g1 g2 g3 => (h2 _ _ _ _ ⟨_, _, _, zup Z (fc9 C.tT _ 0) (fnd g1 g2) (up_at _ _ _ _) (by decide) (Z.c9 rfl rfl)⟩))⟩))⟩
end DUO3
