/-! the law's calls, two and two: ways, carrying, sizes -/
section DUO4
variable {G : GG} {c T T' M : Nat} {t : TW} {v : Nat → Nat} {mi m m1 m2 : MI} {ml ml2 : ML} {mr : MR} {dom : List Nat} {e : Int32}
theorem zsame (Z : ZZ c T T' t mi ml mr dom) (h1 : ∀ a, a ≠ 1000 → m2 a = mi a) (h2 : ∀ j, j ≠ 0 → m2 1000 j = mi 1000 j) (h4 : ml2 4 = ml 4) : ZZ (c + 1) T T' t m2 ml2 mr dom := by
  obtain ⟨⟨x1, x2, ⟨hT, hT', hne, hTn, hTs⟩, hW, hR, hk, hdm⟩, ⟨y1, y2, y3⟩, ⟨q, q1, q2, q3, q4⟩, hC, ⟨a, w, a1, a2, a3, a4, a5, a6⟩, ⟨n, n1, n2, n3, n4⟩, hud⟩ := Z
  have b := hT.b
  have hRX : RX m2 T t := RX_off2 (fun j j6 _ _ => h1 _ (by omega)) (by rw [h1 _ (by omega)]) hR hW
  refine ⟨⟨x1, x2, ⟨hT, hT', hne, hTn, hTs⟩, hW, hRX, fun k hk' => by rw [h4]; exact hk k hk', fun z hz => by have := hdm z hz; omega⟩, ⟨?_, ?_, ?_⟩, ⟨q, q1, ?_, ?_, fun i hi' => ?_⟩, hC.kk (h1 15 (by decide)) (h1 16 (by decide)), ⟨a, w, ?_, ?_, a3, ?_, a5, fun j hj => ?_⟩, ⟨n, ?_, ?_, n3, fun j hj => ?_⟩, ?_⟩
  · rw [h2 1 (by decide), h1 0 (by decide)]; exact y1
  · rw [h2 13 (by decide), h1 0 (by decide)]; exact y2
  · rw [h2 2 (by decide), h1 0 (by decide)]; exact y3
  · rw [h1 0 (by decide)]; exact q2
  · rw [h2 6 (by decide)]; exact q3
  · rw [h1 1001 (by decide), h1 1 (by decide)]; exact q4 i hi'
  · rw [h1 8 (by decide)]; exact a1
  · rw [h2 19 (by decide)]; exact a2
  · rw [h1 8 (by decide)]; exact a4
  · rw [h1 10 (by decide), h1 1003 (by decide)]
    obtain ⟨u, hu⟩ := a6 j hj
    exact ⟨u, hu.le (Nat.le_succ c)⟩
  · rw [h1 8 (by decide)]; exact n1
  · rw [h2 20 (by decide)]; exact n2
  · rw [h1 11 (by decide), h1 1004 (by decide)]
    obtain ⟨u, hu⟩ := n4 j hj
    exact ⟨u, hu.le (Nat.le_succ c)⟩
  · have t0 : m2 T = mi T := h1 T (by omega)
    rcases hud with ⟨u1, u2, u3, u4, u5⟩ | ⟨k, v, d1, d2, d3, d4, d5, d6, d7, d8, d9⟩
    · exact Or.inl ⟨by rw [t0]; exact u1, u2, u3, by rw [h1 8 (by decide)]; exact u4, by rw [h1 8 (by decide)]; exact u5⟩
    · refine Or.inr ⟨k, v, by rw [t0]; exact d1, d2, d3, d4, by omega, d6, d7, RM_off (fun j _ => h1 _ (by omega)) d8, ?_⟩
      rw [h1 9 (by decide), h1 1002 (by decide)]
      exact d9.le (Nat.le_succ c)
theorem zt0 (Z : ZZ c T T' t mi ml mr dom) (x : Int32) : ZZ (c + 1) T T' t (up mi 1000 0 x) ml mr dom := zsame Z (fun a ha => up_off _ _ ha) (fun j hj => up_ne _ _ hj) rfl
theorem cf6 {x : Nat} (h : x < 99999) : cf x < 1000000 := by rw [cf_lt h]; omega
theorem cf7 {x : Nat} (h : ¬ x < 99999) : 1000000 ≤ cf x := by rw [cf_ge h]; omega
end DUO4
section DUO5
variable {G : GG} {c : Nat} {mi : MI} {ml : ML} {mr : MR} {dom : List Nat}
theorem du_wayAt {a b d : Int32} (hc : c < 99999) (hZ : LAZ c mi ml mr dom) : DU G c yX11_wayAt cX11_wayAt 6 (some .int) [.ref 0, .int a, .int b, .int d] yX13_wayAt cX13_wayAt 7 (some .int) [.ref 1000, .int a, .int b, .int d] mi ml mr dom := by
  obtain ⟨T, T', t, Z⟩ := hZ
  intro K hK
  rcases zcase Z with ⟨rfl, U⟩ | ⟨M, v, C⟩
  · exact ⟨3, by decide, cx_wayAtB1 U.X U.tT U.Tn U.W U.R (bad00 _ _ _) (hK _ _ _ _ _ (fun K2 h2 => ⟨3, by decide, mx_wayAtN U.TM  (h2 _ _ _ _ ⟨_, _, _, zrf Z (fc9 U.tT _ 1) (up_at _ _ _ _) (by decide) (Z.c9 rfl rfl)⟩)⟩))⟩
  · have w := C.W.1
    rcases bad_or a (t 0 3) (by omega) with hb0 | ⟨h, hk0, rfl⟩
    · exact ⟨3, by decide, cx_wayAtB1 C.X C.tT C.Tn C.W C.R hb0 (hK _ _ _ _ _ (fun K2 h2 => ⟨3, by decide, mx_wayAtB1 C.xm C.mm C.xt C.TM C.G C.W (C.rm (fc9 C.tT _ 1)) hb0 (h2 _ _ _ _ ⟨_, _, _, zrf Z (fc9 C.tT _ 1) (up_at _ _ _ _) (by decide) (Z.c9 rfl rfl)⟩)⟩))⟩
    rcases bad_or b (t 0 3) (by omega) with hb1 | ⟨g, hk1, rfl⟩
    · exact ⟨3, by decide, cx_wayAtB2 C.X C.tT C.Tn C.W C.R hk0 hb1 (hK _ _ _ _ _ (fun K2 h2 => ⟨3, by decide, mx_wayAtB2 C.xm C.mm C.xt C.TM C.G C.W (C.rm (fc9 C.tT _ 1)) hk0 hb1 (h2 _ _ _ _ ⟨_, _, _, zrf Z (fc9 C.tT _ 1) (up_at _ _ _ _) (by decide) (Z.c9 rfl rfl)⟩)⟩))⟩
    rcases bad_or d 6 (by decide) with hb2 | ⟨i, hk2, rfl⟩
    · by_cases hz : d < 0
      · exact ⟨3, by decide, cx_wayAtB3 C.X C.tT C.Tn C.W C.R hk0 hk1 hb2 (hK _ _ _ _ _ (fun K2 h2 => ⟨3, by decide, mx_wayAtB3 C.xm C.mm C.xt C.TM C.G C.W (C.rm (fc9 C.tT _ 1)) hk0 hk1 hz (h2 _ _ _ _ ⟨_, _, _, zrf Z (fc9 C.tT _ 1) (up_at _ _ _ _) (by decide) (Z.c9 rfl rfl)⟩)⟩))⟩
      · obtain ⟨j, hj, rfl⟩ := nI_of hz
        have h6 : 6 ≤ j := by
          rcases hb2 with q | q
          · exact absurd q hz
          · exact (nI_leI (by decide) hj).mp q
        by_cases h3 : t 3 (6 * h + g) < 99999
        · exact ⟨3, by decide, cx_wayAtB3 C.X C.tT C.Tn C.W C.R hk0 hk1 hb2 (hK _ _ _ _ _ (fun K2 h2 => ⟨3, by decide, mx_wayAt C.xm C.mm C.xt C.TM C.G C.W (C.rm (fc9 C.tT _ 1)) C.D hk0 hk1 h3 hj ⟨fun _ => (h2 _ _ _ _ ⟨_, _, _, zrf Z (fc9 C.tT _ 1) (up_at _ _ _ _) (by decide) (Z.c9 rfl rfl)⟩), fun a ha => absurd ha (by rw [wa_long C.D (by omega) j h (by omega) h3 (Nat.lt_of_lt_of_le (rnk_5 (by omega)) h6)]; exact fun q => by cases q)⟩⟩))⟩
        · exact ⟨3, by decide, cx_wayAtB3 C.X C.tT C.Tn C.W C.R hk0 hk1 hb2 (hK _ _ _ _ _ (fun K2 h2 => ⟨3, by decide, mx_wayAtB4 C.xm C.mm C.xt C.TM C.G C.W (C.rm (fc9 C.tT _ 1)) hk0 hk1 h3 hj (h2 _ _ _ _ ⟨_, _, _, zrf Z (fc9 C.tT _ 1) (up_at _ _ _ _) (by decide) (Z.c9 rfl rfl)⟩)⟩))⟩
    · by_cases h3 : t 3 (6 * h + g) < 99999
      · exact ⟨3, by decide, cx_wayAt C.X C.tT C.Tn C.W C.R hk0 hk1 hk2 (cf6 h3) (fun hn => (hK _ _ _ _ _ (fun K2 h2 => ⟨3, by decide, mx_wayAt C.xm C.mm C.xt C.TM C.G C.W (C.rm (fc9 C.tT _ 1)) C.D hk0 hk1 h3 (by omega) ⟨fun _ => (h2 _ _ _ _ ⟨_, _, _, zrf Z (fc9 C.tT _ 1) (up_at _ _ _ _) (by decide) (Z.c9 rfl rfl)⟩), fun a ha => absurd (hn.symm.trans ha) (fun q => by cases q)⟩⟩))) (fun a ha => (hK _ _ _ _ _ (fun K2 h2 => ⟨3, by decide, mx_wayAt C.xm C.mm C.xt C.TM C.G C.W (C.rm (fc9 C.tT _ 0)) C.D hk0 hk1 h3 (by omega) ⟨fun hn => absurd (hn.symm.trans ha) (fun q => by cases q), fun a' ha' => by rw [← Option.some.inj (ha.symm.trans ha')]; exact h2 _ _ _ _ ⟨_, _, _, zrf Z (fc9 C.tT _ 0) (up_at _ _ _ _) (by decide) (Z.c9 rfl rfl)⟩⟩⟩)))⟩
      · exact ⟨3, by decide, cx_wayAtB4 C.X C.tT C.Tn C.W C.R hk0 hk1 hk2 (cf7 h3) (hK _ _ _ _ _ (fun K2 h2 => ⟨3, by decide, mx_wayAtB4 C.xm C.mm C.xt C.TM C.G C.W (C.rm (fc9 C.tT _ 1)) hk0 hk1 h3 (by omega) (h2 _ _ _ _ ⟨_, _, _, zrf Z (fc9 C.tT _ 1) (up_at _ _ _ _) (by decide) (Z.c9 rfl rfl)⟩)⟩))⟩
theorem du_carried (hc : c < 99999) (hZ : LAZ c mi ml mr dom) : DU G c yX11_carried cX11_carried 2 (some .int) [.ref 0] yX13_carried cX13_carried 1 (some .int) [.ref 1000] mi ml mr dom := by
  obtain ⟨T, T', t, Z⟩ := hZ
  intro K hK
  rcases zcase Z with ⟨rfl, U⟩ | ⟨M, v, C⟩
  · exact ⟨2, by decide, cx_carriedN U.X U.tT U.Tn U.W U.R U.h0 (hK _ _ _ _ _ (fun K2 h2 => ⟨3, by decide, mx_carriedN U.TM  (h2 _ _ _ _ ⟨_, _, _, zrf Z (fc9 U.tT _ 1) (up_at _ _ _ _) (by decide) (Z.c9 rfl rfl)⟩)⟩))⟩
  · have w := C.W.1
    obtain ⟨hC1, W, hW1, hW2⟩ := Z.2.2.2.1
    have h3 : 0 < t 0 3 := C.L.2.2.2.1
    obtain ⟨g1, g2, g3, g4⟩ := tg_all (W0 := W) (tr := mi 14) (be := mi 13) C.W C.D C.hgl
    refine ⟨12, by decide, cx_carried2 C.X C.tT C.Tn C.W C.R C.h0 C.gp h3 hW1 hW2 (lo := fun _ => 0) (tr := mi 14) (be := mi 13) (fun _ _ => rfl) (fun _ _ => rfl) (fun _ => by decide) hC1 (fun m hm h16 hS => ?_)⟩
    rw [g1]
    exact (hK _ _ _ _ _ (fun K2 h2 => ⟨6, by decide, mx_carried C.xm C.mm C.xt C.TM C.G C.W (C.rm (fcC C.tT hm)) (C.vm hc (fcC C.tT hm)) C.L.2.2.2.2.1 (fun m2 k1 k2 k3 => (h2 _ _ _ _ ⟨_, _, _, zup Z (fcC C.tT hm) (fn5 k1 k2) (up_at _ _ _ _) (by decide) ⟨fun p hp => by rw [up_off _ _ (by decide), hS.2.2.2 p hp, g4]; rfl, wAll t (FWc t) v W, wAll_le hW1, fun i hi => by rw [up_off _ _ (by decide)]; exact h16 i hi⟩⟩))⟩))
theorem du_carrier {a : Int32} (hc : c < 99999) (hZ : LAZ c mi ml mr dom) : DU G c yX11_carrier cX11_carrier 2 (some .int) [.ref 0, .int a] yX13_carrier cX13_carrier 2 (some .int) [.ref 1000, .int a] mi ml mr dom := by
  obtain ⟨T, T', t, Z⟩ := hZ
  intro K hK
  rcases zcase Z with ⟨rfl, U⟩ | ⟨M, v, C⟩
  · exact ⟨2, by decide, cx_carrierB U.X U.tT U.Tn U.W U.R (bad00 _ _ _) (hK _ _ _ _ _ (fun K2 h2 => ⟨3, by decide, mx_carrierN U.TM  (h2 _ _ _ _ ⟨_, _, _, zrf Z (fc9 U.tT _ 1) (up_at _ _ _ _) (by decide) (Z.c9 rfl rfl)⟩)⟩))⟩
  · have w := C.W.1
    obtain ⟨hC1, W, hW1, hW2⟩ := Z.2.2.2.1
    have h3 : 0 < t 0 3 := C.L.2.2.2.1
    rcases bad_or a (t 0 6) (by omega) with hb0 | ⟨g, hk0, rfl⟩
    · exact ⟨2, by decide, cx_carrierB C.X C.tT C.Tn C.W C.R hb0 (hK _ _ _ _ _ (fun K2 h2 => ⟨6, by decide, mx_carrierB C.xm C.mm C.xt C.TM C.G C.W (C.rm (fc9 C.tT _ 1)) hb0 (h2 _ _ _ _ ⟨_, _, _, zrf Z (fc9 C.tT _ 1) (up_at _ _ _ _) (by decide) (Z.c9 rfl rfl)⟩)⟩))⟩
    obtain ⟨g1, g2, g3, g4⟩ := tg_all (W0 := W) (tr := mi 14) (be := mi 13) C.W C.D C.hgl
    by_cases hE : (ENs t v).1 < 99999
    · have g5 := g3.resolve_left (by omega)
      refine ⟨12, by decide, cx_carrier2 C.X C.tT C.Tn C.W C.R hk0 C.gp h3 hW1 hW2 (lo := fun _ => 0) (tr := mi 14) (be := mi 13) (fun _ _ => rfl) (fun _ _ => rfl) (fun _ => by decide) hC1 (by rw [g1]; exact cf6 hE) (fun m hm h16 hS => ?_)⟩
      rw [g5 g hk0]
      exact (hK _ _ _ _ _ (fun K2 h2 => ⟨6, by decide, mx_carrier C.xm C.mm C.xt C.TM C.G C.W (C.rm (fcC C.tT hm)) (C.vm hc (fcC C.tT hm)) C.L.2.2.2.2.1 hk0 ⟨fun q => absurd hE (by omega), fun _ m2 k1 k2 k3 => (h2 _ _ _ _ ⟨_, _, _, zup Z (fcC C.tT hm) (fn5 k1 k2) (up_at _ _ _ _) (by decide) ⟨fun p hp => by rw [up_off _ _ (by decide), hS.2.2.2 p hp, g4]; rfl, wAll t (FWc t) v W, wAll_le hW1, fun i hi => by rw [up_off _ _ (by decide)]; exact h16 i hi⟩⟩)⟩⟩))
    · exact ⟨12, by decide, cx_carrierE2 C.X C.tT C.Tn C.W C.R hk0 C.gp h3 hW1 hW2 (lo := fun _ => 0) (tr := mi 14) (be := mi 13) (fun _ _ => rfl) (fun _ _ => rfl) (fun _ => by decide) hC1 (by rw [g1]; exact cf7 hE) (fun m hm h16 hS => (hK _ _ _ _ _ (fun K2 h2 => ⟨6, by decide, mx_carrier C.xm C.mm C.xt C.TM C.G C.W (C.rm (fcC C.tT hm)) (C.vm hc (fcC C.tT hm)) C.L.2.2.2.2.1 hk0 ⟨fun _ m2 k1 k2 k3 => (h2 _ _ _ _ ⟨_, _, _, zup Z (fcC C.tT hm) (fn5 k1 k2) (up_at _ _ _ _) (by decide) ⟨fun p hp => by rw [up_off _ _ (by decide), hS.2.2.2 p hp, g4]; rfl, wAll t (FWc t) v W, wAll_le hW1, fun i hi => by rw [up_off _ _ (by decide)]; exact h16 i hi⟩⟩), fun q => absurd q hE⟩⟩)))⟩
theorem du_alone {a : Int32} (hc : c < 99999) (hZ : LAZ c mi ml mr dom) : DU G c yX11_alone cX11_alone 2 (some .int) [.ref 0, .int a] yX13_alone cX13_alone 4 (some .int) [.ref 1000, .int a] mi ml mr dom := by
  obtain ⟨T, T', t, Z⟩ := hZ
  intro K hK
  rcases zcase Z with ⟨rfl, U⟩ | ⟨M, v, C⟩
  · exact ⟨2, by decide, cx_aloneB1 U.X U.tT U.Tn U.W U.R (bad00 _ _ _) (hK _ _ _ _ _ (fun K2 h2 => ⟨3, by decide, mx_aloneN U.TM  (h2 _ _ _ _ ⟨_, _, _, zrf Z (fc9 U.tT _ 1) (up_at _ _ _ _) (by decide) (Z.c9 rfl rfl)⟩)⟩))⟩
  · have w := C.W.1
    obtain ⟨hC1, W, hW1, hW2⟩ := Z.2.2.2.1
    have h3 : 0 < t 0 3 := C.L.2.2.2.1
    rcases bad_or a (t 0 5) (by omega) with hb0 | ⟨p, hk0, rfl⟩
    · exact ⟨2, by decide, cx_aloneB1 C.X C.tT C.Tn C.W C.R hb0 (hK _ _ _ _ _ (fun K2 h2 => ⟨5, by decide, mx_aloneB C.xm C.mm C.xt C.TM C.G C.W (C.rm (fc9 C.tT _ 1)) hb0 (h2 _ _ _ _ ⟨_, _, _, zrf Z (fc9 C.tT _ 1) (up_at _ _ _ _) (by decide) (Z.c9 rfl rfl)⟩)⟩))⟩
    by_cases h4 : t 4 p = 1
    · refine ⟨11, by decide, cx_alone C.X C.tT C.Tn C.W C.R hk0 h4 C.gp h3 hW1 hW2 (fun m hm h16 => ?_)⟩
      have ea := alone_eq (W := W) C.W C.D C.hgl hk0 h4
      rw [ea]
      exact (hK _ _ _ _ _ (fun K2 h2 => ⟨5, by decide, mx_alone C.xm C.mm C.xt C.TM C.G C.W (C.rm (fc1 C.tT hm)) (C.vm hc (fc1 C.tT hm)) hk0 h4 (fun m2 k1 k2 k3 => (h2 _ _ _ _ ⟨_, _, _, zup Z (fc1 C.tT hm) (fn6 k1 k2) (up_at _ _ _ _) (by decide) (zC.w (W := wgh t (FWc t) v p W) Z.2.2.2.1 (hm 15 (by decide)) (wgh_le hW1) h16)⟩))⟩))
    · exact ⟨2, by decide, cx_aloneB2 C.X C.tT C.Tn C.W C.R hk0 h4 (hK _ _ _ _ _ (fun K2 h2 => ⟨5, by decide, mx_aloneB2 C.xm C.mm C.xt C.TM C.G C.W (C.rm (fc9 C.tT _ 1)) hk0 h4 (h2 _ _ _ _ ⟨_, _, _, zrf Z (fc9 C.tT _ 1) (up_at _ _ _ _) (by decide) (Z.c9 rfl rfl)⟩)⟩))⟩
theorem du_stuck (hc : c < 99999) (hZ : LAZ c mi ml mr dom) : DU G c yX11_stuck cX11_stuck 1 (some .int) [.ref 0] yX13_stuck cX13_stuck 5 (some .int) [.ref 1000] mi ml mr dom := by
  obtain ⟨T, T', t, Z⟩ := hZ
  intro K hK
  rcases zcase Z with ⟨rfl, U⟩ | ⟨M, v, C⟩
  · exact ⟨2, by decide, cx_stuckN U.X U.tT U.Tn U.W U.R U.h0 (hK _ _ _ _ _ (fun K2 h2 => ⟨3, by decide, mx_stuckN U.TM  (h2 _ _ _ _ ⟨_, _, _, zrf Z (fc9 U.tT _ 1) (up_at _ _ _ _) (by decide) (Z.c9 rfl rfl)⟩)⟩))⟩
  · have w := C.W.1
    obtain ⟨hC1, W, hW1, hW2⟩ := Z.2.2.2.1
    have h3 : 0 < t 0 3 := C.L.2.2.2.1
    refine ⟨12, by decide, cx_stuck C.X C.tT C.Tn C.W C.R C.h0 C.gp h3 hW1 hW2 (fun m hm h16 => ?_)⟩
    have ea := stuck_eq (W := W) C.W C.D C.hgl
    rw [ea]
    exact (hK _ _ _ _ _ (fun K2 h2 => ⟨4, by decide, mx_stuck C.xm C.mm C.xt C.TM C.G C.W (C.rm (fc1 C.tT hm)) (C.vm hc (fc1 C.tT hm)) (h2 _ _ _ _ ⟨_, _, _, zrf Z (fc1 C.tT hm) (up_at _ _ _ _) (by decide) (zC.w (W := wAll t (FWc t) v W) Z.2.2.2.1 (hm 15 (by decide)) (wAll_le hW1) h16)⟩)⟩))
theorem du_shop {a b z : Int32} (hz : z = 0 ∨ z = 1) (hc : c < 99999) (hZ : LAZ c mi ml mr dom) : DU G c yX11_shop cX11_shop 4 (some .int) [.ref 0, .int a, .int b, .int z] yX13_shop cX13_shop 4 (some .int) [.ref 1000, .int a, .int b, .int z] mi ml mr dom := by
  obtain ⟨T, T', t, Z⟩ := hZ
  intro K hK
  rcases zcase Z with ⟨rfl, U⟩ | ⟨M, v, C⟩
  · exact ⟨2, by decide, cx_shopN U.X U.tT U.Tn U.W U.R U.h0 (hK _ _ _ _ _ (fun K2 h2 => ⟨3, by decide, mx_shopN U.TM (h2 _ _ _ _ ⟨_, _, _, zrf Z (fc9 U.tT _ 1) (up_at _ _ _ _) (by decide) (Z.c9 rfl rfl)⟩)⟩))⟩
  · rcases bad_or a 6 (by decide) with hb0 | ⟨x, hk0, rfl⟩
    · exact ⟨2, by decide, cx_shopB C.X C.tT C.Tn C.W C.R C.h0 (Or.inl hb0) (hK _ _ _ _ _ (fun K2 h2 => ⟨3, by decide, mx_shopB C.xm C.mm C.xt C.TM C.G C.W (C.rm (fc9 C.tT _ 2)) hb0 (h2 _ _ _ _ ⟨_, _, _, zrf Z (fc9 C.tT _ 2) (up_at _ _ _ _) (by decide) (Z.c9 rfl rfl)⟩)⟩))⟩
    rcases bad_or b 6 (by decide) with hb1 | ⟨y, hk1, rfl⟩
    · exact ⟨2, by decide, cx_shopB C.X C.tT C.Tn C.W C.R C.h0 (Or.inr hb1) (hK _ _ _ _ _ (fun K2 h2 => ⟨3, by decide, mx_shopB2 C.xm C.mm C.xt C.TM C.G C.W (C.rm (fc9 C.tT _ 2)) hk0 hb1 (h2 _ _ _ _ ⟨_, _, _, zrf Z (fc9 C.tT _ 2) (up_at _ _ _ _) (by decide) (Z.c9 rfl rfl)⟩)⟩))⟩
    rcases hz with rfl | rfl
    · exact ⟨3, by decide, cx_shop0 C.X C.tT C.Tn C.W C.R C.h0 hk0 hk1 rfl (hK _ _ _ _ _ (fun K2 h2 => ⟨3, by decide, mx_shop0 C.xm C.mm C.xt C.TM C.G C.W (C.rm (fc9 C.tT _ 0)) hk0 hk1 (h2 _ _ _ _ ⟨_, _, _, zrf Z (fc9 C.tT _ 0) (up_at _ _ _ _) (by decide) (Z.c9 rfl rfl)⟩)⟩))⟩
    · exact ⟨3, by decide, cx_shop1 C.X C.tT C.Tn C.W C.R C.h0 hk0 hk1 (by decide) (hK _ _ _ _ _ (fun K2 h2 => ⟨3, by decide, mx_shop1 C.xm C.mm C.xt C.TM C.G C.W (C.rm (fc9 C.tT _ 0)) hk0 hk1 (h2 _ _ _ _ ⟨_, _, _, zrf Z (fc9 C.tT _ 0) (up_at _ _ _ _) (by decide) (Z.c9 rfl rfl)⟩)⟩))⟩
theorem du_fault (hc : c < 99999) (hZ : LAZ c mi ml mr dom) : DU G c yX11_fault cX11_fault 1 (some .int) [.ref 0] yX13_fault cX13_fault 1 (some .int) [.ref 1000] mi ml mr dom := by
  obtain ⟨T, T', t, Z⟩ := hZ
  intro K hK
  have hX := Z.1.1
  have hT := Z.1.2.2.1.1
  have hTn := Z.1.2.2.1.2.2.2.1
  have hW := Z.1.2.2.2.1
  have hR := Z.1.2.2.2.2.1
  have zz := zt0 Z 0
  refine ⟨1, by decide, cx_fault hX hT hTn hW hR  ?_⟩
  rw [← Z.2.1.2.1]
  exact hK _ _ _ _ _ (fun K2 h2 => ⟨1, by decide, mx_fault  (h2 _ _ _ _ ⟨_, _, _, zz⟩)⟩)
theorem du_trouble (hc : c < 99999) (hZ : LAZ c mi ml mr dom) : DU G c yX11_trouble cX11_trouble 1 (some .int) [.ref 0] yX13_trouble cX13_trouble 1 (some .int) [.ref 1000] mi ml mr dom := by
  obtain ⟨T, T', t, Z⟩ := hZ
  intro K hK
  have hX := Z.1.1
  have hT := Z.1.2.2.1.1
  have hTn := Z.1.2.2.1.2.2.2.1
  have hW := Z.1.2.2.2.1
  have hR := Z.1.2.2.2.2.1
  have zz := zt0 Z 0
  refine ⟨1, by decide, cx_trouble hX hT hTn hW hR  ?_⟩
  rw [← Z.2.1.1]
  exact hK _ _ _ _ _ (fun K2 h2 => ⟨1, by decide, mx_trouble  (h2 _ _ _ _ ⟨_, _, _, zz⟩)⟩)
theorem du_where (hc : c < 99999) (hZ : LAZ c mi ml mr dom) : DU G c yX11_where cX11_where 1 (some .int) [.ref 0] yX13_where cX13_where 1 (some .int) [.ref 1000] mi ml mr dom := by
  obtain ⟨T, T', t, Z⟩ := hZ
  intro K hK
  have hX := Z.1.1
  have hT := Z.1.2.2.1.1
  have hTn := Z.1.2.2.1.2.2.2.1
  have hW := Z.1.2.2.2.1
  have hR := Z.1.2.2.2.2.1
  have zz := zt0 Z 0
  have y3 := Z.2.1.2.2
  by_cases h4 : mi 0 9 = 4
  · rw [if_pos h4] at y3
    refine ⟨1, by decide, cx_where1 hX hT hTn hW hR h4 ?_⟩
    rw [← y3]
    exact hK _ _ _ _ _ (fun K2 h2 => ⟨1, by decide, mx_where  (h2 _ _ _ _ ⟨_, _, _, zz⟩)⟩)
  · rw [if_neg h4] at y3
    refine ⟨1, by decide, cx_where0 hX hT hTn hW hR h4 ?_⟩
    rw [← y3]
    exact hK _ _ _ _ _ (fun K2 h2 => ⟨1, by decide, mx_where  (h2 _ _ _ _ ⟨_, _, _, zz⟩)⟩)
theorem du_size {a : Int32} (hc : c < 99999) (hZ : LAZ c mi ml mr dom) : DU G c yX11_size cX11_size 2 (some .int) [.ref 0, .int a] yX13_size cX13_size 2 (some .int) [.ref 1000, .int a] mi ml mr dom := by
  obtain ⟨T, T', t, Z⟩ := hZ
  intro K hK
  have hX := Z.1.1
  have hT := Z.1.2.2.1.1
  have hTn := Z.1.2.2.1.2.2.2.1
  have hW := Z.1.2.2.2.1
  have hR := Z.1.2.2.2.2.1
  have zz := zt0 Z 0
  rcases bad_or a 14 (by decide) with hb | ⟨k, hk, rfl⟩
  · refine ⟨2, by decide, cx_sizeB hX hT hTn hW hR (fun k hk e => by
          subst e
          rcases hb with q | q
          · exact nI_pos (by omega) q
          · exact absurd ((nI_leI (by decide) (by omega)).mp q) (by omega)) ?_⟩
    exact hK _ _ _ _ _ (fun K2 h2 => ⟨2, by decide, mx_sizeB hb (h2 _ _ _ _ ⟨_, _, _, zz⟩)⟩)
  · obtain ⟨q, q1, q2, q3, q4⟩ := Z.2.2.1
    obtain ⟨a0, w0, a1, a2, a3, a4, a5, a6⟩ := Z.2.2.2.2.1
    obtain ⟨n0, n1, n2, n3, n4⟩ := Z.2.2.2.2.2.1
    rcases zcase Z with ⟨rfl, U⟩ | ⟨M, v, C⟩
    · have q9 : k = 0 ∨ k = 1 ∨ k = 2 ∨ k = 3 ∨ k = 4 ∨ k = 5 ∨ k = 6 ∨ k = 7 ∨ k = 8 ∨ k = 9 ∨ k = 10 ∨ k = 11 ∨ k = 12 ∨ k = 13 := by omega
      rcases q9 with rfl | rfl | rfl | rfl | rfl | rfl | rfl | rfl | rfl | rfl | rfl | rfl | rfl | rfl
      · refine ⟨2, by decide, cx_size0 hX hT hTn hW hR  ?_⟩
        exact hK _ _ _ _ _ (fun K2 h2 => ⟨2, by decide, mx_sizeN0 U.TM (h2 _ _ _ _ ⟨_, _, _, zz⟩)⟩)
      · refine ⟨2, by decide, cx_size1 hX hT hTn hW hR  ?_⟩
        exact hK _ _ _ _ _ (fun K2 h2 => ⟨2, by decide, mx_sizeN1 U.TM (h2 _ _ _ _ ⟨_, _, _, zz⟩)⟩)
      · refine ⟨2, by decide, cx_size2 hX hT hTn hW hR  ?_⟩
        exact hK _ _ _ _ _ (fun K2 h2 => ⟨2, by decide, mx_sizeN2 U.TM (h2 _ _ _ _ ⟨_, _, _, zz⟩)⟩)
      · refine ⟨2, by decide, cx_size3 hX hT hTn hW hR  ?_⟩
        exact hK _ _ _ _ _ (fun K2 h2 => ⟨2, by decide, mx_sizeN3 U.TM (h2 _ _ _ _ ⟨_, _, _, zz⟩)⟩)
      · refine ⟨2, by decide, cx_size4 hX hT hTn hW hR  ?_⟩
        exact hK _ _ _ _ _ (fun K2 h2 => ⟨2, by decide, mx_sizeN4 U.TM (h2 _ _ _ _ ⟨_, _, _, zz⟩)⟩)
      · refine ⟨2, by decide, cx_size5 hX hT hTn hW hR  ?_⟩
        exact hK _ _ _ _ _ (fun K2 h2 => ⟨2, by decide, mx_sizeN5 U.TM (h2 _ _ _ _ ⟨_, _, _, zz⟩)⟩)
      · refine ⟨2, by decide, cx_size6 hX hT hTn hW hR  ?_⟩
        exact hK _ _ _ _ _ (fun K2 h2 => ⟨2, by decide, mx_sizeN6 U.TM (h2 _ _ _ _ ⟨_, _, _, zz⟩)⟩)
      · refine ⟨2, by decide, cx_size7 hX hT hTn hW hR  ?_⟩
        exact hK _ _ _ _ _ (fun K2 h2 => ⟨2, by decide, mx_sizeN7 U.TM (h2 _ _ _ _ ⟨_, _, _, zz⟩)⟩)
      · refine ⟨2, by decide, cx_size8 hX hT hTn hW hR  ?_⟩
        exact hK _ _ _ _ _ (fun K2 h2 => ⟨2, by decide, mx_sizeN8 U.TM (h2 _ _ _ _ ⟨_, _, _, zz⟩)⟩)
      · refine ⟨2, by decide, cx_size9N hX hT hTn hW hR U.h0 ?_⟩
        exact hK _ _ _ _ _ (fun K2 h2 => ⟨2, by decide, mx_sizeN9 U.TM (h2 _ _ _ _ ⟨_, _, _, zz⟩)⟩)
      · refine ⟨2, by decide, cx_size10N hX hT hTn hW hR U.h0 ?_⟩
        exact hK _ _ _ _ _ (fun K2 h2 => ⟨2, by decide, mx_sizeN10 U.TM (h2 _ _ _ _ ⟨_, _, _, zz⟩)⟩)
      · refine ⟨1, by decide, cx_size11 hX hT hTn hW hR  ?_⟩
        rw [U.a0]
        exact hK _ _ _ _ _ (fun K2 h2 => ⟨2, by decide, mx_sizeN11 U.TM (h2 _ _ _ _ ⟨_, _, _, zz⟩)⟩)
      · refine ⟨1, by decide, cx_size12 hX hT hTn hW hR  ?_⟩
        rw [U.n0]
        exact hK _ _ _ _ _ (fun K2 h2 => ⟨2, by decide, mx_sizeN12 U.TM (h2 _ _ _ _ ⟨_, _, _, zz⟩)⟩)
      · refine ⟨1, by decide, cx_size13 hX hT hTn hW hR  ?_⟩
        rw [q2, ← q3]
        exact hK _ _ _ _ _ (fun K2 h2 => ⟨2, by decide, mx_size13  (h2 _ _ _ _ ⟨_, _, _, zz⟩)⟩)
    · have q9 : k = 0 ∨ k = 1 ∨ k = 2 ∨ k = 3 ∨ k = 4 ∨ k = 5 ∨ k = 6 ∨ k = 7 ∨ k = 8 ∨ k = 9 ∨ k = 10 ∨ k = 11 ∨ k = 12 ∨ k = 13 := by omega
      rcases q9 with rfl | rfl | rfl | rfl | rfl | rfl | rfl | rfl | rfl | rfl | rfl | rfl | rfl | rfl
      · refine ⟨2, by decide, cx_size0 hX hT hTn hW hR  ?_⟩
        exact hK _ _ _ _ _ (fun K2 h2 => ⟨2, by decide, mx_size0 C.xm C.mm C.xt C.TM C.G C.W C.r (h2 _ _ _ _ ⟨_, _, _, zz⟩)⟩)
      · refine ⟨2, by decide, cx_size1 hX hT hTn hW hR  ?_⟩
        exact hK _ _ _ _ _ (fun K2 h2 => ⟨2, by decide, mx_size1 C.xm C.mm C.xt C.TM C.G C.W C.r (h2 _ _ _ _ ⟨_, _, _, zz⟩)⟩)
      · refine ⟨2, by decide, cx_size2 hX hT hTn hW hR  ?_⟩
        exact hK _ _ _ _ _ (fun K2 h2 => ⟨2, by decide, mx_size2 C.xm C.mm C.xt C.TM C.G C.W C.r (h2 _ _ _ _ ⟨_, _, _, zz⟩)⟩)
      · refine ⟨2, by decide, cx_size3 hX hT hTn hW hR  ?_⟩
        exact hK _ _ _ _ _ (fun K2 h2 => ⟨2, by decide, mx_size3 C.xm C.mm C.xt C.TM C.G C.W C.r (h2 _ _ _ _ ⟨_, _, _, zz⟩)⟩)
      · refine ⟨2, by decide, cx_size4 hX hT hTn hW hR  ?_⟩
        exact hK _ _ _ _ _ (fun K2 h2 => ⟨2, by decide, mx_size4 C.xm C.mm C.xt C.TM C.G C.W C.r (h2 _ _ _ _ ⟨_, _, _, zz⟩)⟩)
      · refine ⟨2, by decide, cx_size5 hX hT hTn hW hR  ?_⟩
        exact hK _ _ _ _ _ (fun K2 h2 => ⟨2, by decide, mx_size5 C.xm C.mm C.xt C.TM C.G C.W C.r (h2 _ _ _ _ ⟨_, _, _, zz⟩)⟩)
      · refine ⟨2, by decide, cx_size6 hX hT hTn hW hR  ?_⟩
        exact hK _ _ _ _ _ (fun K2 h2 => ⟨2, by decide, mx_size6 C.xm C.mm C.xt C.TM C.G C.W C.r (h2 _ _ _ _ ⟨_, _, _, zz⟩)⟩)
      · refine ⟨2, by decide, cx_size7 hX hT hTn hW hR  ?_⟩
        exact hK _ _ _ _ _ (fun K2 h2 => ⟨2, by decide, mx_size7 C.xm C.mm C.xt C.TM C.G C.W C.r (h2 _ _ _ _ ⟨_, _, _, zz⟩)⟩)
      · refine ⟨2, by decide, cx_size8 hX hT hTn hW hR  ?_⟩
        exact hK _ _ _ _ _ (fun K2 h2 => ⟨2, by decide, mx_size8 C.xm C.mm C.xt C.TM C.G C.W C.r (h2 _ _ _ _ ⟨_, _, _, zz⟩)⟩)
      · refine ⟨2, by decide, cx_size9 hX hT hTn hW hR C.h0 ?_⟩
        rw [C.S.2.2.1.1]
        exact hK _ _ _ _ _ (fun K2 h2 => ⟨2, by decide, mx_size9 C.xm C.mm C.xt C.TM C.G C.W C.r (C.S.vm hc) (h2 _ _ _ _ ⟨_, _, _, zz⟩)⟩)
      · refine ⟨2, by decide, cx_size10 hX hT hTn hW hR C.h0 ?_⟩
        rw [C.S.2.2.2.1]
        exact hK _ _ _ _ _ (fun K2 h2 => ⟨2, by decide, mx_size10 C.xm C.mm C.xt C.TM C.G C.W C.r (C.S.vm hc) (h2 _ _ _ _ ⟨_, _, _, zz⟩)⟩)
      · refine ⟨1, by decide, cx_size11 hX hT hTn hW hR  ?_⟩
        rw [a1]
        exact hK _ _ _ _ _ (fun K2 h2 => ⟨2, by decide, mx_size11 C.xm C.mm C.xt C.TM C.G C.W C.r a2 a3 (h2 _ _ _ _ ⟨_, _, _, zz⟩)⟩)
      · refine ⟨1, by decide, cx_size12 hX hT hTn hW hR  ?_⟩
        rw [n1]
        exact hK _ _ _ _ _ (fun K2 h2 => ⟨2, by decide, mx_size12 C.xm C.mm C.xt C.TM C.G C.W C.r n2 n3 (h2 _ _ _ _ ⟨_, _, _, zz⟩)⟩)
      · refine ⟨1, by decide, cx_size13 hX hT hTn hW hR  ?_⟩
        rw [q2, ← q3]
        exact hK _ _ _ _ _ (fun K2 h2 => ⟨2, by decide, mx_size13  (h2 _ _ _ _ ⟨_, _, _, zz⟩)⟩)
end DUO5
