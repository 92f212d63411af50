/-! the class and the reference, tied: the state that the law keeps -/
def SV (c : Nat) (t : TW) (f g : Nat → Int32) (u : Nat → Nat) : Prop := (∀ p, p < t 0 5 → f p = nI (u p) ∧ g p = nI (u p) ∧ u p < t 0 3) ∧ (∀ k, k < t 0 6 → f (6 + k) = nI (u (6 + k)) ∧ g (6 + k) = nI (u (6 + k)) ∧ u (6 + k) < t 0 3) ∧ (f 11 = nI (u 11) ∧ g 11 = nI (u 11) ∧ u 11 < 24) ∧ (f 12 = nI (u 12) ∧ g 12 = nI (u 12) ∧ u 12 ≤ c)
def zB (c T T' : Nat) (t : TW) (mi : MI) (ml : ML) (mr : MR) (dom : List Nat) : Prop := XR mr ∧ XM mr ∧ (TT T ∧ TT T' ∧ T ≠ T' ∧ mr 0 2 = some T ∧ mr 0 3 = some T') ∧ WT t ∧ RX mi T t ∧ (∀ k, k < 7 → ml 4 k = kc k) ∧ ∀ z ∈ dom, z < 2000 + 20 * c
def zE (mi : MI) : Prop := mi 1000 1 = mi 0 9 ∧ mi 1000 13 = mi 0 10 ∧ mi 1000 2 = if mi 0 9 = 4 then mi 0 11 else -1
def zT (mi : MI) : Prop := ∃ q, q ≤ 1100 ∧ mi 0 1 = nI q ∧ mi 1000 6 = nI q ∧ ∀ i, i < q → mi 1001 i = mi 1 i ∧ mi 1 i = sx (by8 (mi 1 i))
def zC (mi : MI) : Prop := (∀ p, p < 6 → mi 15 p = 0) ∧ ∃ W, le6 W ∧ ∀ i, i < 192 → mi 16 i = nI (W i)
def zA (c : Nat) (t : TW) (mi : MI) (a w : Nat) : Prop := mi 8 0 = nI a ∧ mi 1000 19 = nI a ∧ a ≤ 16 ∧ mi 8 4 = nI w ∧ w < 16 ∧ ∀ j, j < a → ∃ u, SV c t (fun i => mi 10 (13 * ((w + 16 - j) % 16) + i)) (fun i => mi 1003 (13 * (a - 1 - j) + i)) u
def zI (c : Nat) (t : TW) (mi : MI) (n : Nat) : Prop := mi 8 1 = nI n ∧ mi 1000 20 = nI n ∧ n ≤ 3 ∧ ∀ j, j < n → ∃ u, SV c t (fun i => mi 11 (13 * j + i)) (fun i => mi 1004 (13 * j + i)) u
def zU (T : Nat) (t : TW) (mi : MI) (mr : MR) : Prop := mi T 0 = 0 ∧ t = t00 ∧ mr 1000 3 = none ∧ mi 8 0 = 0 ∧ mi 8 1 = 0
def zD (c T : Nat) (t : TW) (mi : MI) (mr : MR) (k : Nat) (v : Nat → Nat) : Prop := mi T 0 = 1 ∧ GB t ∧ LT t ∧ DS 99999 (t 2) (t 3) ∧ k < c ∧ mr 1000 3 = some (2000 + 20 * k) ∧ XT mr (2000 + 20 * k) ∧ RM mi (2000 + 20 * k) t ∧ SV c t (mi 9) (mi 1002) v
def ZZ (c T T' : Nat) (t : TW) (mi : MI) (ml : ML) (mr : MR) (dom : List Nat) : Prop := zB c T T' t mi ml mr dom ∧ zE mi ∧ zT mi ∧ zC mi ∧ (∃ a w, zA c t mi a w) ∧ (∃ n, zI c t mi n) ∧ (zU T t mi mr ∨ ∃ k v, zD c T t mi mr k v)
def LAZ (c : Nat) (mi : MI) (ml : ML) (mr : MR) (dom : List Nat) : Prop := ∃ T T' t, ZZ c T T' t mi ml mr dom
/-- what a class's question may write -/
def FC (T : Nat) (mi m : MI) : Prop := (∀ a, a ≠ 0 → ¬ (12 ≤ a ∧ a ≤ 22) → a ≠ T + 9 → a ≠ T + 2 → m a = mi a) ∧ (∀ j, j ≠ 9 → m 0 j = mi 0 j) ∧ ∀ j, j ≠ 3 → m (T + 2) j = mi (T + 2) j
/-- what the reference's question may write -/
def FN (mi m : MI) : Prop := (∀ a, a ≠ 1000 → ¬ (1005 ≤ a ∧ a ≤ 1012) → m a = mi a) ∧ ∀ j, j ≠ 0 → j ≠ 26 → j ≠ 30 → j ≠ 31 → m 1000 j = mi 1000 j
section ZST
variable {c c2 T T' k : Nat} {t : TW} {v u f0 : Nat → Nat} {f g : Nat → Int32} {mi m m1 m2 : MI} {ml : ML} {mr : MR} {dom : List Nat} {e : Int32}
theorem SV.le (hc : c ≤ c2) (h : SV c t f g u) : SV c2 t f g u := ⟨h.1, h.2.1, h.2.2.1, h.2.2.2.1, h.2.2.2.2.1, Nat.le_trans h.2.2.2.2.2 hc⟩
theorem TT.b (h : TT T) : 100 ≤ T ∧ T ≤ 200 := by rcases h with rfl | rfl <;> decide
theorem RX_off2 (e : ∀ j, j < 60 → j ≠ 2 → j ≠ 9 → m (T + j) = mi (T + j)) (e2 : m (T + 2) 0 = mi (T + 2) 0) (h : RX mi T t) (hW : WT t) : RX m T t := by
  have e0 : m T = mi T := e 0 (by decide) (by decide) (by decide)
  have w := hW.1
  obtain ⟨h1, h2, h3, h4, h5, h6, h7, h8⟩ := h
  refine ⟨?_, fun i hi => ?_, fun i hi => ?_, fun h0 i hi => ?_, fun p hp => ?_, fun g hg => ?_, fun v hv => ?_, fun k hk => ?_⟩
  · rw [e0, e2]; exact h1
  · rw [e 1 (by decide) (by decide) (by decide)]; exact h2 i hi
  · rw [e 3 (by decide) (by decide) (by decide)]; exact h3 i hi
  · rw [e 4 (by decide) (by decide) (by decide)]; exact h4 h0 i hi
  · have e1 : m (T + 10 + p) = mi (T + 10 + p) := by rw [Nat.add_assoc]; exact e _ (by omega) (by omega) (by omega)
    have e2 : m (T + 10 + p + 10) = mi (T + 10 + p + 10) := by rw [Nat.add_assoc, Nat.add_assoc]; exact e _ (by omega) (by omega) (by omega)
    rw [e1, e2]; exact h5 p hp
  · have e1 : m (T + 30 + g) = mi (T + 30 + g) := by rw [Nat.add_assoc]; exact e _ (by omega) (by omega) (by omega)
    rw [e1]; exact h6 g hg
  · have e1 : m (T + 40 + v) = mi (T + 40 + v) := by rw [Nat.add_assoc]; exact e _ (by omega) (by omega) (by omega)
    rw [e1]; exact h7 v hv
  · have e1 : m (T + 50 + k) = mi (T + 50 + k) := by rw [Nat.add_assoc]; exact e _ (by omega) (by omega) (by omega)
    rw [e1]; exact h8 k hk
theorem FC.hi (h : FC T mi m) (hT : TT T) {a : Nat} (ha : 1000 ≤ a) : m a = mi a := h.1 a (by omega) (by omega) (by have := hT.b; omega) (by have := hT.b; omega)
theorem FC.lo (h : FC T mi m) (hT : TT T) {a : Nat} (ha : a ≠ 0) (h12 : a < 12) : m a = mi a := h.1 a ha (by omega) (by have := hT.b; omega) (by have := hT.b; omega)
theorem FN.lo (h : FN mi m) {a : Nat} (ha : a < 1000) : m a = mi a := h.1 a (by omega) (by omega)
theorem FN.md (h : FN mi m) {a : Nat} (ha : 1000 < a) (hb : a < 1005) : m a = mi a := h.1 a (by omega) (by omega)
theorem FN.hi (h : FN mi m) {a : Nat} (ha : 1012 < a) : m a = mi a := h.1 a (by omega) (by omega)
theorem FC.rf' (T : Nat) (mi : MI) : FC T mi mi := ⟨fun _ _ _ _ _ => rfl, fun _ _ => rfl, fun _ _ => rfl⟩
theorem FC.u9 (h : FC T mi m) (hT : TT T) : FC T mi (up m 0 9 e) := ⟨fun a h0 h1 h2 h3 => (up_off _ _ h0).trans (h.1 a h0 h1 h2 h3), fun j hj => (up_ne _ _ hj).trans (h.2.1 j hj), fun j hj => by rw [up_off _ _ (by have := hT.b; omega)]; exact h.2.2 j hj⟩
theorem fc9 (hT : TT T) (mi : MI) (e : Int32) : FC T mi (up mi 0 9 e) := FC.u9 (FC.rf' T mi) hT
theorem FC.of {S : List Nat} (hT : TT T) (hS : ∀ a ∈ S, 12 ≤ a ∧ a ≤ 22) (h : ∀ a, a ∉ S → m a = mi a) : FC T mi m := by
  have b := hT.b
  refine ⟨fun a _ h1 _ _ => h a (fun q => h1 (hS a q)), fun j _ => ?_, fun j _ => ?_⟩
  · rw [h 0 (fun q => by have := hS 0 q; omega)]
  · rw [h (T + 2) (fun q => by have := hS _ q; omega)]
/-- the state, a question later -/
theorem zstep (Z : ZZ c T T' t mi ml mr dom) (fc : FC T mi m1) (fn : (∀ a, a ≠ 1000 → ¬ (1005 ≤ a ∧ a ≤ 1012) → m2 a = m1 a) ∧ ∀ j, j ≠ 0 → j ≠ 1 → j ≠ 2 → j ≠ 26 → j ≠ 30 → j ≠ 31 → m2 1000 j = m1 1000 j) (h9 : m1 0 9 = e) (he : ¬ e = 4) (h1 : m2 1000 1 = e) (h2 : m2 1000 2 = -1) (hC : zC m1) : ZZ (c + 1) T T' t m2 ml mr dom := by
  obtain ⟨⟨x1, x2, ⟨hT, hT', hne, hTn, hTs⟩, hW, hR, hk, hdm⟩, ⟨y1, y2, y3⟩, ⟨q, q1, q2, q3, q4⟩, -, ⟨a, w, a1, a2, a3, a4, a5, a6⟩, ⟨n, n1, n2, n3, n4⟩, hud⟩ := Z
  have b := hT.b
  have lo : ∀ a, a < 1000 → m2 a = m1 a := fun a ha => fn.1 a (by omega) (by omega)
  have hi : ∀ a, 1000 < a → ¬ (1005 ≤ a ∧ a ≤ 1012) → m2 a = mi a := fun a ha hb => (fn.1 a (by omega) hb).trans (fc.hi hT (by omega))
  have m00 : ∀ j, j ≠ 0 → j ≠ 1 → j ≠ 2 → j ≠ 26 → j ≠ 30 → j ≠ 31 → m2 1000 j = mi 1000 j := fun j b0 b1 b2 b3 b4 b5 => (fn.2 j b0 b1 b2 b3 b4 b5).trans (by rw [fc.hi hT (Nat.le_refl 1000)])
  have cl : ∀ a, a ≠ 0 → a < 12 → m2 a = mi a := fun a h0 h12 => (lo a (by omega)).trans (fc.lo hT h0 h12)
  have c0 : ∀ j, j ≠ 9 → m2 0 j = mi 0 j := fun j hj => by rw [lo 0 (by decide)]; exact fc.2.1 j hj
  have tw : ∀ j, j < 60 → j ≠ 2 → j ≠ 9 → m2 (T + j) = mi (T + j) := fun j j6 j2 j9 => (lo _ (by omega)).trans (fc.1 _ (by omega) (by omega) (by omega) (by omega))
  have hRX : RX m2 T t := RX_off2 tw (by rw [lo _ (by omega)]; exact fc.2.2 0 (by decide)) hR hW
  have e90 : m2 0 9 = e := by rw [lo 0 (by decide)]; exact h9
  refine ⟨⟨x1, x2, ⟨hT, hT', hne, hTn, hTs⟩, hW, hRX, hk, fun z hz => by have := hdm z hz; omega⟩, ⟨h1.trans e90.symm, ?_, ?_⟩, ⟨q, q1, ?_, ?_, fun i hi' => ?_⟩, ⟨fun p hp => ?_, ?_⟩, ⟨a, w, ?_, ?_, a3, ?_, a5, fun j hj => ?_⟩, ⟨n, ?_, ?_, n3, fun j hj => ?_⟩, ?_⟩
  · rw [m00 13 (by decide) (by decide) (by decide) (by decide) (by decide) (by decide), c0 10 (by decide)]; exact y2
  · rw [e90, if_neg he]; exact h2
  · rw [c0 1 (by decide)]; exact q2
  · rw [m00 6 (by decide) (by decide) (by decide) (by decide) (by decide) (by decide)]; exact q3
  · rw [hi 1001 (by decide) (by decide), cl 1 (by decide) (by decide)]; exact q4 i hi'
  · rw [lo 15 (by decide)]; exact hC.1 p hp
  · rw [lo 16 (by decide)]; exact hC.2
  · rw [cl 8 (by decide) (by decide)]; exact a1
  · rw [m00 19 (by decide) (by decide) (by decide) (by decide) (by decide) (by decide)]; exact a2
  · rw [cl 8 (by decide) (by decide)]; exact a4
  · rw [cl 10 (by decide) (by decide), hi 1003 (by decide) (by decide)]
    obtain ⟨u, hu⟩ := a6 j hj
    exact ⟨u, hu.le (Nat.le_succ c)⟩
  · rw [cl 8 (by decide) (by decide)]; exact n1
  · rw [m00 20 (by decide) (by decide) (by decide) (by decide) (by decide) (by decide)]; exact n2
  · rw [cl 11 (by decide) (by decide), hi 1004 (by decide) (by decide)]
    obtain ⟨u, hu⟩ := n4 j hj
    exact ⟨u, hu.le (Nat.le_succ c)⟩
  · have t0 : m2 T = mi T := tw 0 (by decide) (by decide) (by decide)
    rcases hud with ⟨u1, u2, u3, u4, u5⟩ | ⟨k, v, d1, d2, d3, d4, d5, d6, d7, d8, d9⟩
    · exact Or.inl ⟨by rw [t0]; exact u1, u2, u3, by rw [cl 8 (by decide) (by decide)]; exact u4, by rw [cl 8 (by decide) (by decide)]; exact u5⟩
    · refine Or.inr ⟨k, v, by rw [t0]; exact d1, d2, d3, d4, by omega, d6, d7, RM_off (fun j _ => hi _ (by omega) (by omega)) d8, ?_⟩
      rw [cl 9 (by decide) (by decide), hi 1002 (by decide) (by decide)]
      exact d9.le (Nat.le_succ c)
theorem zrf (Z : ZZ c T T' t mi ml mr dom) (fc : FC T mi m1) (h9 : m1 0 9 = e) (he : ¬ e = 4) (hC : zC m1) : ZZ (c + 1) T T' t (rf m1 e) ml mr dom :=
  zstep Z fc ⟨fun a ha _ => by unfold rf; rw [up_off _ _ ha, up_off _ _ ha, up_off _ _ ha], fun j b0 b1 b2 _ _ _ => by unfold rf; rw [up_ne _ _ b2, up_ne _ _ b1, up_ne _ _ b0]⟩ h9 he (by unfold rf; rw [up_ne _ _ (by decide), up_at]) (by unfold rf; rw [up_at]) hC
theorem zup (Z : ZZ c T T' t mi ml mr dom) (fc : FC T mi m1) (fn : FN m1 m2) (h9 : m1 0 9 = e) (he : ¬ e = 4) (hC : zC m1) : ZZ (c + 1) T T' t (up (up m2 1000 1 e) 1000 2 (-1)) ml mr dom :=
  zstep Z fc ⟨fun a ha hb => by rw [up_off _ _ ha, up_off _ _ ha]; exact fn.1 a ha hb, fun j b0 b1 b2 b3 b4 b5 => by rw [up_ne _ _ b2, up_ne _ _ b1]; exact fn.2 j b0 b3 b4 b5⟩ h9 he (by rw [up_ne _ _ (by decide), up_at]) (by rw [up_at]) hC
theorem zC.kk (h : zC mi) (e1 : m 15 = mi 15) (e2 : m 16 = mi 16) : zC m := by unfold zC; rw [e1, e2]; exact h
theorem ZZ.c9 (Z : ZZ c T T' t mi ml mr dom) (h1 : m 15 = mi 15) (h2 : m 16 = mi 16) : zC (up m 0 9 e) := zC.kk Z.2.2.2.1 ((up_off _ _ (by decide)).trans h1) ((up_off _ _ (by decide)).trans h2)
/-- what is known of an untold town -/
def UC (T : Nat) (mi : MI) (mr : MR) : Prop := (XR mr) ∧ (TT T) ∧ (mr 0 2 = some T) ∧ (WT t00) ∧ (RX mi T t00) ∧ (mi T 0 = 0) ∧ (mr 1000 3 = none) ∧ (XM mr) ∧ (mi 8 0 = 0) ∧ (mi 8 1 = 0)
theorem UC.X {T : Nat} {mi : MI} {mr : MR} (h : UC T mi mr) : XR mr := h.1
theorem UC.tT {T : Nat} {mi : MI} {mr : MR} (h : UC T mi mr) : TT T := h.2.1
theorem UC.Tn {T : Nat} {mi : MI} {mr : MR} (h : UC T mi mr) : mr 0 2 = some T := h.2.2.1
theorem UC.W {T : Nat} {mi : MI} {mr : MR} (h : UC T mi mr) : WT t00 := h.2.2.2.1
theorem UC.R {T : Nat} {mi : MI} {mr : MR} (h : UC T mi mr) : RX mi T t00 := h.2.2.2.2.1
theorem UC.h0 {T : Nat} {mi : MI} {mr : MR} (h : UC T mi mr) : mi T 0 = 0 := h.2.2.2.2.2.1
theorem UC.TM {T : Nat} {mi : MI} {mr : MR} (h : UC T mi mr) : mr 1000 3 = none := h.2.2.2.2.2.2.1
theorem UC.xm {T : Nat} {mi : MI} {mr : MR} (h : UC T mi mr) : XM mr := h.2.2.2.2.2.2.2.1
theorem UC.a0 {T : Nat} {mi : MI} {mr : MR} (h : UC T mi mr) : mi 8 0 = 0 := h.2.2.2.2.2.2.2.2.1
theorem UC.n0 {T : Nat} {mi : MI} {mr : MR} (h : UC T mi mr) : mi 8 1 = 0 := h.2.2.2.2.2.2.2.2.2
/-- what is known of a told town -/
def TC (c T M : Nat) (t : TW) (v : Nat → Nat) (mi : MI) (mr : MR) : Prop := (XR mr) ∧ (TT T) ∧ (mr 0 2 = some T) ∧ (WT t) ∧ (RX mi T t) ∧ (mi T 0 = 1) ∧ (XM mr) ∧ (MM M) ∧ (XT mr M) ∧ (mr 1000 3 = some M) ∧ (GB t) ∧ (LT t) ∧ (DS 99999 (t 2) (t 3)) ∧ (RM mi M t) ∧ (SV c t (mi 9) (mi 1002) v)
theorem TC.X {c T M : Nat} {t : TW} {v : Nat → Nat} {mi : MI} {mr : MR} (h : TC c T M t v mi mr) : XR mr := h.1
theorem TC.tT {c T M : Nat} {t : TW} {v : Nat → Nat} {mi : MI} {mr : MR} (h : TC c T M t v mi mr) : TT T := h.2.1
theorem TC.Tn {c T M : Nat} {t : TW} {v : Nat → Nat} {mi : MI} {mr : MR} (h : TC c T M t v mi mr) : mr 0 2 = some T := h.2.2.1
theorem TC.W {c T M : Nat} {t : TW} {v : Nat → Nat} {mi : MI} {mr : MR} (h : TC c T M t v mi mr) : WT t := h.2.2.2.1
theorem TC.R {c T M : Nat} {t : TW} {v : Nat → Nat} {mi : MI} {mr : MR} (h : TC c T M t v mi mr) : RX mi T t := h.2.2.2.2.1
theorem TC.h0 {c T M : Nat} {t : TW} {v : Nat → Nat} {mi : MI} {mr : MR} (h : TC c T M t v mi mr) : mi T 0 = 1 := h.2.2.2.2.2.1
theorem TC.xm {c T M : Nat} {t : TW} {v : Nat → Nat} {mi : MI} {mr : MR} (h : TC c T M t v mi mr) : XM mr := h.2.2.2.2.2.2.1
theorem TC.mm {c T M : Nat} {t : TW} {v : Nat → Nat} {mi : MI} {mr : MR} (h : TC c T M t v mi mr) : MM M := h.2.2.2.2.2.2.2.1
theorem TC.xt {c T M : Nat} {t : TW} {v : Nat → Nat} {mi : MI} {mr : MR} (h : TC c T M t v mi mr) : XT mr M := h.2.2.2.2.2.2.2.2.1
theorem TC.TM {c T M : Nat} {t : TW} {v : Nat → Nat} {mi : MI} {mr : MR} (h : TC c T M t v mi mr) : mr 1000 3 = some M := h.2.2.2.2.2.2.2.2.2.1
theorem TC.G {c T M : Nat} {t : TW} {v : Nat → Nat} {mi : MI} {mr : MR} (h : TC c T M t v mi mr) : GB t := h.2.2.2.2.2.2.2.2.2.2.1
theorem TC.L {c T M : Nat} {t : TW} {v : Nat → Nat} {mi : MI} {mr : MR} (h : TC c T M t v mi mr) : LT t := h.2.2.2.2.2.2.2.2.2.2.2.1
theorem TC.D {c T M : Nat} {t : TW} {v : Nat → Nat} {mi : MI} {mr : MR} (h : TC c T M t v mi mr) : DS 99999 (t 2) (t 3) := h.2.2.2.2.2.2.2.2.2.2.2.2.1
theorem TC.r {c T M : Nat} {t : TW} {v : Nat → Nat} {mi : MI} {mr : MR} (h : TC c T M t v mi mr) : RM mi M t := h.2.2.2.2.2.2.2.2.2.2.2.2.2.1
theorem TC.S {c T M : Nat} {t : TW} {v : Nat → Nat} {mi : MI} {mr : MR} (h : TC c T M t v mi mr) : SV c t (mi 9) (mi 1002) v := h.2.2.2.2.2.2.2.2.2.2.2.2.2.2
theorem zcase (Z : ZZ c T T' t mi ml mr dom) : (t = t00 ∧ UC T mi mr) ∨ ∃ M v, TC c T M t v mi mr := by
  obtain ⟨⟨x1, x2, ⟨hT, hT', hne, hTn, hTs⟩, hW, hR, hk, hdm⟩, -, -, -, -, -, hud⟩ := Z
  rcases hud with ⟨u1, u2, u3, u4, u5⟩ | ⟨k, v, d1, d2, d3, d4, d5, d6, d7, d8, d9⟩
  · subst u2
    exact Or.inl ⟨rfl, x1, hT, hTn, hW, hR, u1, u3, x2, u4, u5⟩
  · exact Or.inr ⟨2000 + 20 * k, v, x1, hT, hTn, hW, hR, d1, x2, ⟨k, rfl⟩, d7, d6, d2, d3, d4, d8, d9⟩
theorem TC.rm {M : Nat} (C : TC c T M t v mi mr) (fc : FC T mi m1) : RM m1 M t := RM_lo C.mm (fun n hn => fc.hi C.tT (by omega)) C.r
theorem SV.vm (h : SV c t (m 9) (mi 1002) v) (hc : c < 99999) : VM mi t v := ⟨fun p hp => ⟨(h.1 p hp).2.1, (h.1 p hp).2.2⟩, fun g hg => ⟨(h.2.1 g hg).2.1, (h.2.1 g hg).2.2⟩, ⟨h.2.2.1.2.1, h.2.2.1.2.2⟩, ⟨h.2.2.2.2.1, Nat.lt_of_le_of_lt h.2.2.2.2.2 hc⟩⟩
theorem TC.vm {M : Nat} (C : TC c T M t v mi mr) (hc : c < 99999) (fc : FC T mi m1) : VM m1 t v := VM_off (fc.hi C.tT (by decide)) (C.S.vm hc)
theorem TC.gp {M : Nat} (C : TC c T M t v mi mr) : GP mi t v := fun g hg => ⟨(C.S.2.1 g hg).1, (C.S.2.1 g hg).2.2⟩
theorem TC.hv {M : Nat} (C : TC c T M t v mi mr) : ∀ i, i < t 0 5 → mi 9 i = nI (v i) := fun i hi => (C.S.1 i hi).1
theorem TC.hvl {M : Nat} (C : TC c T M t v mi mr) : ∀ i, i < t 0 5 → v i < t 0 3 := fun i hi => (C.S.1 i hi).2.2
theorem TC.hvb {M : Nat} (C : TC c T M t v mi mr) : ∀ i, i < t 0 5 → v i < 2 ^ 31 := fun i hi => by have := C.hvl i hi; have := C.W.1; omega
theorem TC.hgl {M : Nat} (C : TC c T M t v mi mr) : ∀ g, g < t 0 6 → v (6 + g) < t 0 3 := fun g hg => (C.S.2.1 g hg).2.2
theorem bad00 (x : Int32) (r i : Nat) : bad x (t00 r i) := by
  unfold bad
  rcases pk_ix x (n := t00 r i) (show 0 < 2 ^ 31 by decide) with h | h | ⟨j, h, _⟩
  · exact Or.inl h
  · exact Or.inr h
  · exact absurd h (Nat.not_lt_zero _)
theorem bad_or (x : Int32) (n : Nat) (hn : n < 2 ^ 31) : bad x n ∨ ∃ k, k < n ∧ x = nI k := by
  unfold bad
  rcases pk_ix x hn with h | h | h
  · exact Or.inl (Or.inl h)
  · exact Or.inl (Or.inr h)
  · exact Or.inr h
end ZST
