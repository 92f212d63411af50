/-! PURE: what a child takes, class and reference -/
abbrev FWc (t : TW) : Nat → Nat := fun i => cf (t 3 i)
def RC (t : TW) (v : Nat → Nat) (p : Nat) : Nat → Nat → Nat → Nat → Prop
  | 0, a, ld, s => a = t 5 p ∧ ld = 0 ∧ s = 0
  | k + 1, a, ld, s => ∃ g a' ld' s', RC t v p k a' ld' s' ∧ g < t 0 6 ∧ coK t (FWc t) v p a' ld' g = true ∧ a = t 10 g ∧ ld = ld' ||| 2 ^ g ∧ s = s' + mor t (FWc t) v a' g
theorem cf_10 {x : Nat} (h : cf x < 1000000) : x < 99999 ∧ cf x = x := by
  by_cases q : x < 99999
  · exact ⟨q, cf_lt q⟩
  · rw [cf_ge q] at h; omega
section CRY
variable {t : TW} {v : Nat → Nat} {p : Nat}
theorem coK_t {a ld g : Nat} (h : coK t (FWc t) v p a ld g = true) : ld.testBit g = false ∧ mgo t v g = true ∧ t 8 g ≤ str t p ∧ t 3 (6 * a + v (6 + g)) < 99999 ∧ t 3 (6 * v (6 + g) + t 10 g) < 99999 ∧ mor t (FWc t) v a g = t 3 (6 * a + v (6 + g)) + t 3 (6 * v (6 + g) + t 10 g) := by
  unfold coK at h
  rw [Bool.and_eq_true, Bool.and_eq_true, Bool.and_eq_true, decide_eq_true_eq, decide_eq_true_eq] at h
  obtain ⟨h1, h2, h3, h4⟩ := h
  have h4' : cf (t 3 (6 * a + v (6 + g))) + cf (t 3 (6 * v (6 + g) + t 10 g)) < 1000000 := h4
  have e1 := cf_10 (show cf (t 3 (6 * a + v (6 + g))) < 1000000 by omega)
  have e2 := cf_10 (show cf (t 3 (6 * v (6 + g) + t 10 g)) < 1000000 by omega)
  have h1' : ld.testBit g = false := by
    cases q : ld.testBit g
    · rfl
    · rw [q] at h1; cases h1
  refine ⟨h1', h2, h3, e1.1, e2.1, ?_⟩
  show cf (t 3 (6 * a + v (6 + g))) + cf (t 3 (6 * v (6 + g) + t 10 g)) = _
  rw [e1.2, e2.2]
theorem coK_i {a ld g : Nat} (h1 : ld.testBit g = false) (h2 : mgo t v g = true) (h3 : t 8 g ≤ str t p) (h4 : t 3 (6 * a + v (6 + g)) ≤ 7680) (h5 : t 3 (6 * v (6 + g) + t 10 g) ≤ 7680) : coK t (FWc t) v p a ld g = true := by
  have e : mor t (FWc t) v a g = t 3 (6 * a + v (6 + g)) + t 3 (6 * v (6 + g) + t 10 g) := by
    show cf (t 3 (6 * a + v (6 + g))) + cf (t 3 (6 * v (6 + g) + t 10 g)) = _
    rw [cf_lt (by omega), cf_lt (by omega)]
  unfold coK
  rw [h1, h2, decide_eq_true h3, e, decide_eq_true (by omega)]; rfl
/-- what the class lays -/
theorem co_dn : ∀ n a ld s W i, co t (FWc t) v p n a ld s W i ≤ W i := by
  have u : ∀ (W : Nat → Nat) k s i, upN W k (min (W k) s) i ≤ W i := fun W k s i => by
    unfold upN; split
    · next e => rw [e]; omega
    · exact Nat.le_refl _
  intro n
  induction n with
  | zero => intro a ld s W i; exact u W _ s i
  | succ n ih =>
    intro a ld s W i
    rw [co]
    refine Nat.le_trans (fu_dn (F := fun g W => if coK t (FWc t) v p a ld g then co t (FWc t) v p n (t 10 g) (ld ||| 2 ^ g) (s + mor t (FWc t) v a g) W else W) (fun g f z => ?_) _ _ i) (u W _ s i)
    show (if coK t (FWc t) v p a ld g then co t (FWc t) v p n (t 10 g) (ld ||| 2 ^ g) (s + mor t (FWc t) v a g) f else f) z ≤ f z
    split
    · exact ih _ _ _ _ _
    · exact Nat.le_refl _
theorem co_me : ∀ n a ld s W, co t (FWc t) v p n a ld s W (32 * p + ld) ≤ s := by
  intro n a ld s W
  have u : upN W (32 * p + ld) (min (W (32 * p + ld)) s) (32 * p + ld) ≤ s := by rw [upN_at]; omega
  cases n with
  | zero => exact u
  | succ n =>
    rw [co]
    refine Nat.le_trans (fu_dn (F := fun g W => if coK t (FWc t) v p a ld g then co t (FWc t) v p n (t 10 g) (ld ||| 2 ^ g) (s + mor t (FWc t) v a g) W else W) (fun g f z => ?_) _ _ _) u
    show (if coK t (FWc t) v p a ld g then co t (FWc t) v p n (t 10 g) (ld ||| 2 ^ g) (s + mor t (FWc t) v a g) f else f) z ≤ f z
    split
    · exact co_dn _ _ _ _ _ _
    · exact Nat.le_refl _
theorem co_in {n a ld s g : Nat} {W : Nat → Nat} (hg : g < t 0 6) (hk : coK t (FWc t) v p a ld g = true) : ∃ W1, ∀ i, co t (FWc t) v p (n + 1) a ld s W i ≤ co t (FWc t) v p n (t 10 g) (ld ||| 2 ^ g) (s + mor t (FWc t) v a g) W1 i := by
  refine ⟨fu (fun g W => if coK t (FWc t) v p a ld g then co t (FWc t) v p n (t 10 g) (ld ||| 2 ^ g) (s + mor t (FWc t) v a g) W else W) g (upN W (32 * p + ld) (min (W (32 * p + ld)) s)), fun i => ?_⟩
  · rw [co]
    refine Nat.le_trans (fu_dnk (F := fun g W => if coK t (FWc t) v p a ld g then co t (FWc t) v p n (t 10 g) (ld ||| 2 ^ g) (s + mor t (FWc t) v a g) W else W) (k := g) (fun g f z => ?_) (t 0 6) _ i hg) ?_
    · show (if coK t (FWc t) v p a ld g then co t (FWc t) v p n (t 10 g) (ld ||| 2 ^ g) (s + mor t (FWc t) v a g) f else f) z ≤ f z
      split
      · exact co_dn _ _ _ _ _ _
      · exact Nat.le_refl _
    · show (if coK t (FWc t) v p a ld g then co t (FWc t) v p n (t 10 g) (ld ||| 2 ^ g) (s + mor t (FWc t) v a g) _ else _) i ≤ _
      rw [if_pos hk]; exact Nat.le_refl _
theorem co_all {W : Nat → Nat} : ∀ k a ld s, RC t v p k a ld s → k ≤ 5 → ∃ W1, ∀ i, co t (FWc t) v p 5 (t 5 p) 0 0 W i ≤ co t (FWc t) v p (5 - k) a ld s W1 i
  | 0, a, ld, s, h, _ => by
    obtain ⟨rfl, rfl, rfl⟩ := h
    exact ⟨W, fun i => Nat.le_refl _⟩
  | k + 1, a, ld, s, h, hk => by
    obtain ⟨g, a', ld', s', h1, h2, h3, rfl, rfl, rfl⟩ := h
    obtain ⟨W1, e1⟩ := co_all k a' ld' s' h1 (by omega)
    obtain ⟨W2, e2⟩ := co_in (n := 5 - (k + 1)) (s := s') (W := W1) h2 h3
    refine ⟨W2, fun i => Nat.le_trans (e1 i) ?_⟩
    have := e2 i
    rw [show 5 - (k + 1) + 1 = 5 - k by omega] at this
    exact this
theorem co_com {W : Nat → Nat} {k a ld s : Nat} (h : RC t v p k a ld s) (hk : k ≤ 5) : co t (FWc t) v p 5 (t 5 p) 0 0 W (32 * p + ld) ≤ s := by
  obtain ⟨W1, e⟩ := co_all (W := W) k a ld s h hk
  exact Nat.le_trans (e _) (co_me _ _ _ _ _)
theorem co_snd : ∀ n k a ld s W, RC t v p k a ld s → ∀ i, co t (FWc t) v p n a ld s W i = W i ∨ ∃ k' a' ld' s', RC t v p k' a' ld' s' ∧ i = 32 * p + ld' ∧ co t (FWc t) v p n a ld s W i = s' := by
  have u : ∀ k a ld s (W : Nat → Nat), RC t v p k a ld s → ∀ i, upN W (32 * p + ld) (min (W (32 * p + ld)) s) i = W i ∨ ∃ k' a' ld' s', RC t v p k' a' ld' s' ∧ i = 32 * p + ld' ∧ upN W (32 * p + ld) (min (W (32 * p + ld)) s) i = s' := by
    intro k a ld s W h i
    by_cases e : i = 32 * p + ld
    · subst e
      rw [upN_at]
      by_cases q : W (32 * p + ld) ≤ s
      · left; omega
      · right; exact ⟨k, a, ld, s, h, rfl, by omega⟩
    · left; exact upN_ne _ e
  intro n
  induction n with
  | zero => intro k a ld s W h i; exact u k a ld s W h i
  | succ n ih =>
    intro k a ld s W h i
    rw [co]
    have key : ∀ m, m ≤ t 0 6 → fu (fun g W => if coK t (FWc t) v p a ld g then co t (FWc t) v p n (t 10 g) (ld ||| 2 ^ g) (s + mor t (FWc t) v a g) W else W) m (upN W (32 * p + ld) (min (W (32 * p + ld)) s)) i = W i ∨ ∃ k' a' ld' s', RC t v p k' a' ld' s' ∧ i = 32 * p + ld' ∧ fu (fun g W => if coK t (FWc t) v p a ld g then co t (FWc t) v p n (t 10 g) (ld ||| 2 ^ g) (s + mor t (FWc t) v a g) W else W) m (upN W (32 * p + ld) (min (W (32 * p + ld)) s)) i = s' := by
      intro m
      induction m with
      | zero => intro _; exact u k a ld s W h i
      | succ m ihm =>
        intro hm
        have im := ihm (by omega)
        show (if coK t (FWc t) v p a ld m then co t (FWc t) v p n (t 10 m) (ld ||| 2 ^ m) (s + mor t (FWc t) v a m) (fu _ m _) else fu _ m _) i = W i ∨ ∃ k' a' ld' s', RC t v p k' a' ld' s' ∧ i = 32 * p + ld' ∧ (if coK t (FWc t) v p a ld m then co t (FWc t) v p n (t 10 m) (ld ||| 2 ^ m) (s + mor t (FWc t) v a m) (fu _ m _) else fu _ m _) i = s'
        by_cases q : coK t (FWc t) v p a ld m = true
        · rw [if_pos q]
          have hr : RC t v p (k + 1) (t 10 m) (ld ||| 2 ^ m) (s + mor t (FWc t) v a m) := ⟨m, a, ld, s, h, by omega, q, rfl, rfl, rfl⟩
          rcases ih (k + 1) _ _ _ (fu (fun g W => if coK t (FWc t) v p a ld g then co t (FWc t) v p n (t 10 g) (ld ||| 2 ^ g) (s + mor t (FWc t) v a g) W else W) m (upN W (32 * p + ld) (min (W (32 * p + ld)) s))) hr i with e | e
          · rw [e]; exact im
          · exact Or.inr e
        · rw [if_neg q]; exact im
    exact key (t 0 6) (Nat.le_refl _)
/-- what is reached -/
theorem RC_ok (hW : WT t) (hD : DS 99999 (t 2) (t 3)) (hv : ∀ g, g < t 0 6 → v (6 + g) < t 0 3) (hp : p < t 0 5) : ∀ k a ld s, RC t v p k a ld s → a < 6 ∧ ld < 32 ∧ popc ld = k ∧ t 3 (6 * t 5 p + a) ≤ 3840 ∧ s ≤ k * 7680 ∧ (0 < k → t 4 p = 1)
  | 0, a, ld, s, h => by
    obtain ⟨rfl, rfl, rfl⟩ := h
    have h6 := hW.1.2.2.2.1
    have hp5 := (hW.2.2.2.1 p hp).2.1
    exact ⟨by omega, by decide, by decide, by rw [hD.1 (t 5 p) (by omega)]; decide, by omega, fun q => absurd q (Nat.lt_irrefl _)⟩
  | k + 1, a, ld, s, h => by
    obtain ⟨g, a', ld', s', h1, h2, h3, rfl, rfl, rfl⟩ := h
    obtain ⟨i1, i2, i3, i4, i5, i6⟩ := RC_ok hW hD hv hp k a' ld' s' h1
    obtain ⟨c1, c2, c3, c4, c5, c6⟩ := coK_t h3
    have h6 := hW.1.2.2.2.1
    have h5 := hW.1.2.2.2.2.2.2.1
    have hp5 := (hW.2.2.2.1 p hp).2.1
    have hg := hW.2.2.2.2.1 g h2
    have hvg := hv g h2
    have d1 := hD.2.2.2.2.2.2 _ c4
    have d2 := hD.2.2.2.2.2.2 _ c5
    have t1 := hD.2.2.1 (t 5 p) a' (v (6 + g)) (by omega) i1 (by omega)
    have t2 := hD.2.2.1 (t 5 p) (v (6 + g)) (t 10 g) (by omega) (by omega) (by omega)
    refine ⟨by omega, or_32 i2 (by omega), ?_, hD.2.2.2.2.2.2 _ (by omega), ?_, fun _ => ?_⟩
    · rw [pop_or ld' i2 g (by omega) c1, i3]
    · rw [c6]; omega
    · unfold str at c3
      by_cases q : t 4 p = 1
      · exact q
      · rw [if_neg q] at c3; omega
theorem RC_k (hW : WT t) (hD : DS 99999 (t 2) (t 3)) (hv : ∀ g, g < t 0 6 → v (6 + g) < t 0 3) (hp : p < t 0 5) {k a ld s : Nat} (h : RC t v p k a ld s) : k ≤ 5 := by
  have q := RC_ok hW hD hv hp k a ld s h
  have := (show ∀ n, n < 32 → popc n ≤ 5 by decide +kernel) ld q.2.1
  omega
/-- the class's minutes of a child -/
def isW (t : TW) (v : Nat → Nat) (p S x : Nat) : Prop := (x < 1000000 → ∃ k a, RC t v p k a S x) ∧ (∀ k a s, RC t v p k a S s → x ≤ s) ∧ x ≤ 1000000
theorem wgh_W (hW : WT t) (hD : DS 99999 (t 2) (t 3)) (hv : ∀ g, g < t 0 6 → v (6 + g) < t 0 3) (hp : p < t 0 5) (hc : t 4 p = 1) {W : Nat → Nat} {S : Nat} (hS : S < 32) : isW t v p S (wgh t (FWc t) v p W (32 * p + S)) := by
  have e0 : frs p W (32 * p + S) = 1000000 := if_pos (by omega)
  unfold wgh
  rw [if_pos hc]
  refine ⟨fun hlt => ?_, fun k a s h => co_com h (RC_k hW hD hv hp h), ?_⟩
  · rcases co_snd 5 0 (t 5 p) 0 0 (frs p W) ⟨rfl, rfl, rfl⟩ (32 * p + S) with e | ⟨k, a, ld, s, h1, h2, h3⟩
    · rw [e, e0] at hlt; omega
    · have : ld = S := by omega
      subst this
      rw [h3]; exact ⟨k, a, h1⟩
  · exact Nat.le_trans (co_dn _ _ _ _ _ _) (by rw [e0]; exact Nat.le_refl _)
theorem wgh_o (hW : WT t) (hD : DS 99999 (t 2) (t 3)) (hv : ∀ g, g < t 0 6 → v (6 + g) < t 0 3) (hp : p < t 0 5) {W : Nat → Nat} {i : Nat} (hi : i < 32 * p ∨ 32 * p + 32 ≤ i) : wgh t (FWc t) v p W i = W i := by
  have e0 : frs p W i = W i := if_neg (by omega)
  unfold wgh
  split
  · rcases co_snd 5 0 (t 5 p) 0 0 (frs p W) ⟨rfl, rfl, rfl⟩ i with e | ⟨k, a, ld, s, h1, h2, h3⟩
    · rw [e, e0]
    · have := (RC_ok hW hD hv hp k a ld s h1).2.1; omega
  · exact e0
theorem wAll_p (hW : WT t) (hD : DS 99999 (t 2) (t 3)) (hv : ∀ g, g < t 0 6 → v (6 + g) < t 0 3) {W : Nat → Nat} {q S : Nat} (hq : q < t 0 5) (hS : S < 32) : ∃ W', wAll t (FWc t) v W (32 * q + S) = wgh t (FWc t) v q W' (32 * q + S) := by
  have key : ∀ n, n ≤ t 0 5 → q < n → ∃ W', fu (fun p W => wgh t (FWc t) v p W) n W (32 * q + S) = wgh t (FWc t) v q W' (32 * q + S) := by
    intro n
    induction n with
    | zero => intro _ h; omega
    | succ n ih =>
      intro hn hqn
      show ∃ W', wgh t (FWc t) v n (fu (fun p W => wgh t (FWc t) v p W) n W) (32 * q + S) = _
      by_cases e : q = n
      · subst e; exact ⟨_, rfl⟩
      · rw [wgh_o hW hD hv (by omega) (by omega)]
        exact ih (by omega) (by omega)
  exact key (t 0 5) (Nat.le_refl _) hq
/-- the reference's table -/
theorem bhF_hit {rest g : Nat} {B : Nat → Nat} {b : Nat} : ∀ n, fu (bhF t v rest g B) n b = b ∨ ∃ f, f < n ∧ rest.testBit f = true ∧ B f < 99999 ∧ fu (bhF t v rest g B) n b = B f + t 3 (6 * t 10 f + v (6 + g)) + t 3 (6 * v (6 + g) + t 10 g) := by
  intro n
  induction n with
  | zero => left; rfl
  | succ n ih =>
    show bhF t v rest g B n (fu (bhF t v rest g B) n b) = b ∨ ∃ f, f < n + 1 ∧ rest.testBit f = true ∧ B f < 99999 ∧ bhF t v rest g B n (fu (bhF t v rest g B) n b) = _
    by_cases c : (rest.testBit n && decide (B n < 99999)) = true
    · have e : bhF t v rest g B n (fu (bhF t v rest g B) n b) = min (fu (bhF t v rest g B) n b) (B n + t 3 (6 * t 10 n + v (6 + g)) + t 3 (6 * v (6 + g) + t 10 g)) := if_pos c
      rw [e]
      rw [Bool.and_eq_true, decide_eq_true_eq] at c
      by_cases q : fu (bhF t v rest g B) n b ≤ B n + t 3 (6 * t 10 n + v (6 + g)) + t 3 (6 * v (6 + g) + t 10 g)
      · rw [Nat.min_eq_left q]
        rcases ih with h | ⟨f, h1, h2⟩
        · exact Or.inl h
        · exact Or.inr ⟨f, by omega, h2⟩
      · rw [Nat.min_eq_right (by omega)]
        exact Or.inr ⟨n, by omega, c.1, c.2, rfl⟩
    · have e : bhF t v rest g B n (fu (bhF t v rest g B) n b) = fu (bhF t v rest g B) n b := if_neg c
      rw [e]
      rcases ih with h | ⟨f, h1, h2⟩
      · exact Or.inl h
      · exact Or.inr ⟨f, by omega, h2⟩
theorem sub_or : ∀ S, S < 32 → ∀ g, g < 5 → S.testBit g = true → (S - 2 ^ g) ||| 2 ^ g = S ∧ (S - 2 ^ g).testBit g = false ∧ S - 2 ^ g < S := by decide +kernel
theorem or_sub : ∀ S, S < 32 → ∀ g, g < 5 → S.testBit g = false → (S ||| 2 ^ g) - 2 ^ g = S ∧ (S ||| 2 ^ g).testBit g = true ∧ S ||| 2 ^ g ≠ 0 := by decide +kernel
theorem sub_b5 : ∀ S, S < 32 → ∀ g, g < 5 → S.testBit g = true → ∀ x, x < 5 → (S - 2 ^ g).testBit x = true → S.testBit x = true := by decide +kernel
theorem or_b5 : ∀ S, S < 32 → ∀ g, g < 5 → ∀ x, x < 5 → (S ||| 2 ^ g).testBit x = (S.testBit x || decide (x = g)) := by decide +kernel
def okM (t : TW) (v : Nat → Nat) (S : Nat) : Prop := S < 32 ∧ ∀ g, S.testBit g = true → g < t 0 6 ∧ mgo t v g = true
theorem okM.sub {S g : Nat} (h : okM t v S) (hg : S.testBit g = true) : okM t v (S - 2 ^ g) := ⟨Nat.lt_of_le_of_lt (Nat.sub_le _ _) h.1, fun x hx => h.2 x (sub_b5 S h.1 g (bit_32 h.1 hg) hg x (bit_32 (Nat.lt_of_le_of_lt (Nat.sub_le _ _) h.1) hx) hx)⟩
theorem bh_snd (hW : WT t) (hD : DS 99999 (t 2) (t 3)) (hv : ∀ g, g < t 0 6 → v (6 + g) < t 0 3) (hp : p < t 0 5) : ∀ n S g, S ≤ n → okM t v S → S.testBit g = true → bh t v p S g < 99999 → ∃ k, RC t v p k (t 10 g) S (bh t v p S g) := by
  intro n
  induction n with
  | zero =>
    intro S g hn _ hg _
    rw [show S = 0 by omega] at hg; simp at hg
  | succ n ih =>
    intro S g hn hS hg hlt
    have hc := bh_can hlt
    have hct := canC_t hc.2
    have g5 := bit_32 hS.1 hg
    have sb := sub_or S hS.1 g g5 hg
    have h6 := hW.1.2.2.2.1
    have hp5 := (hW.2.2.2.1 p hp).2.1
    have hgo := hW.2.2.2.2.1 g hct.1
    have hvg := hv g hct.1
    have e1 := hD.2.2.2.2.2.2 _ hct.2.2.1
    have e2 := hD.2.2.2.2.2.2 _ hct.2.2.2
    have emor : ∀ a, t 3 (6 * a + v (6 + g)) ≤ 7680 → mor t (FWc t) v a g = t 3 (6 * a + v (6 + g)) + t 3 (6 * v (6 + g) + t 10 g) := fun a ha => by
      show cf (t 3 (6 * a + v (6 + g))) + cf (t 3 (6 * v (6 + g) + t 10 g)) = _
      rw [cf_lt (by omega), cf_lt (by omega)]
    rw [bh_e hc.1] at hlt ⊢
    unfold bhS at hlt ⊢
    rw [if_pos hc.2] at hlt ⊢
    rcases bhF_hit (t := t) (v := v) (rest := S - 2 ^ g) (g := g) (B := fun f => bh t v p (S - 2 ^ g) f) (b := bh0 t v p (S - 2 ^ g) g) 5 with h | ⟨f, f1, f2, f3, f4⟩
    · rw [h] at hlt ⊢
      unfold bh0 at hlt ⊢
      by_cases q : S - 2 ^ g = 0
      · rw [if_pos q]
        refine ⟨1, g, t 5 p, 0, 0, ⟨rfl, rfl, rfl⟩, hct.1, coK_i (Nat.zero_testBit g) (hS.2 g hg).2 hct.2.1 (by omega) (by omega), rfl, ?_, ?_⟩
        · rw [← sb.1, q]
        · rw [emor (t 5 p) (by omega), Nat.zero_add]
      · rw [if_neg q] at hlt; omega
    · have f3 : bh t v p (S - 2 ^ g) f < 99999 := f3
      have f4 : _ = bh t v p (S - 2 ^ g) f + t 3 (6 * t 10 f + v (6 + g)) + t 3 (6 * v (6 + g) + t 10 g) := f4
      rw [f4]
      obtain ⟨k, hk⟩ := ih (S - 2 ^ g) f (by omega) (hS.sub hg) f2 f3
      have hr := RC_ok hW hD hv hp k _ _ _ hk
      have tr := hD.2.2.1 (t 10 f) (t 5 p) (v (6 + g)) hr.1 (by omega) (by omega)
      have sy := hD.2.2.2.2.2.1 (t 10 f) (t 5 p) hr.1 (by omega)
      refine ⟨k + 1, g, t 10 f, S - 2 ^ g, bh t v p (S - 2 ^ g) f, hk, hct.1, coK_i sb.2.1 (hS.2 g hg).2 hct.2.1 (by omega) (by omega), rfl, sb.1.symm, ?_⟩
      rw [emor (t 10 f) (by omega)]; omega
theorem bh_com (hW : WT t) (hD : DS 99999 (t 2) (t 3)) (hv : ∀ g, g < t 0 6 → v (6 + g) < t 0 3) (hp : p < t 0 5) : ∀ k a S s, RC t v p (k + 1) a S s → ∃ g, g < t 0 6 ∧ S.testBit g = true ∧ a = t 10 g ∧ bh t v p S g ≤ s := by
  intro k
  induction k with
  | zero =>
    intro a S s h
    obtain ⟨g, a', ld', s', h1, h2, h3, rfl, rfl, rfl⟩ := h
    obtain ⟨rfl, rfl, rfl⟩ := h1
    have c := coK_t h3
    have h5 := hW.1.2.2.2.2.2.2.1
    have o := or_sub 0 (by decide) g (by omega) c.1
    refine ⟨g, h2, o.2.1, rfl, ?_⟩
    rw [bh_e o.2.2]
    unfold bhS
    rw [if_pos (canC_i h2 c.2.2.1 c.2.2.2.1 c.2.2.2.2.1), c.2.2.2.2.2]
    refine Nat.le_trans (fu_le0 (fun f b => bhF_dn f b) 5 _) ?_
    unfold bh0
    rw [if_pos o.1]; omega
  | succ k ih =>
    intro a S s h
    obtain ⟨g, a', ld', s', h1, h2, h3, rfl, rfl, rfl⟩ := h
    obtain ⟨f, f1, f2, rfl, f4⟩ := ih a' ld' s' h1
    have hr := RC_ok hW hD hv hp (k + 1) _ _ _ h1
    have hk := RC_k hW hD hv hp h1
    have c := coK_t h3
    have h5 := hW.1.2.2.2.2.2.2.1
    have h6 := hW.1.2.2.2.1
    have hp5 := (hW.2.2.2.1 p hp).2.1
    have hvg := hv g h2
    have o := or_sub ld' hr.2.1 g (by omega) c.1
    have d1 := hD.2.2.2.2.2.2 _ c.2.2.2.1
    have tr := hD.2.2.1 (t 5 p) (t 10 f) (v (6 + g)) (by omega) hr.1 (by omega)
    refine ⟨g, h2, o.2.1, rfl, ?_⟩
    rw [bh_e o.2.2]
    unfold bhS
    rw [if_pos (canC_i h2 c.2.2.1 (by omega) c.2.2.2.2.1), c.2.2.2.2.2, o.1]
    refine Nat.le_trans (fu_hit (fun f b => bhF_dn f b) (k := f) (c := bh t v p ld' f + t 3 (6 * t 10 f + v (6 + g)) + t 3 (6 * v (6 + g) + t 10 g)) (fun b => ?_) 5 _ (by omega)) (by omega)
    have hb : bh t v p ld' f < 99999 := by omega
    have e : bhF t v ld' g (fun f => bh t v p ld' f) f b = min b (bh t v p ld' f + t 3 (6 * t 10 f + v (6 + g)) + t 3 (6 * v (6 + g) + t 10 g)) := if_pos (by rw [f2, decide_eq_true hb]; rfl)
    rw [e]; exact Nat.min_le_right _ _
theorem tkF_hit {S : Nat} {b : Nat} : ∀ n, fu (tkF t v p S) n b = b ∨ ∃ g, g < n ∧ S.testBit g = true ∧ fu (tkF t v p S) n b = bh t v p S g := by
  intro n
  induction n with
  | zero => left; rfl
  | succ n ih =>
    show tkF t v p S n (fu (tkF t v p S) n b) = b ∨ ∃ g, g < n + 1 ∧ S.testBit g = true ∧ tkF t v p S n (fu (tkF t v p S) n b) = _
    by_cases c : S.testBit n = true
    · have e : tkF t v p S n (fu (tkF t v p S) n b) = min (fu (tkF t v p S) n b) (bh t v p S n) := if_pos c
      rw [e]
      by_cases q : fu (tkF t v p S) n b ≤ bh t v p S n
      · rw [Nat.min_eq_left q]
        rcases ih with h | ⟨f, h1, h2⟩
        · exact Or.inl h
        · exact Or.inr ⟨f, by omega, h2⟩
      · rw [Nat.min_eq_right (by omega)]
        exact Or.inr ⟨n, by omega, c, rfl⟩
    · have e : tkF t v p S n (fu (tkF t v p S) n b) = fu (tkF t v p S) n b := if_neg c
      rw [e]
      rcases ih with h | ⟨f, h1, h2⟩
      · exact Or.inl h
      · exact Or.inr ⟨f, by omega, h2⟩
theorem tk_snd (hW : WT t) (hD : DS 99999 (t 2) (t 3)) (hv : ∀ g, g < t 0 6 → v (6 + g) < t 0 3) (hp : p < t 0 5) {S : Nat} (hS : okM t v S) (hlt : tk t v p S < 99999) : ∃ k a, RC t v p k a S (tk t v p S) := by
  unfold tk at hlt ⊢
  by_cases h0 : S = 0
  · rw [if_pos h0]; exact ⟨0, t 5 p, rfl, h0, rfl⟩
  · rw [if_neg h0] at hlt ⊢
    rcases tkF_hit (t := t) (v := v) (p := p) (S := S) (b := 99999) 5 with h | ⟨g, g1, g2, g3⟩
    · rw [h] at hlt; omega
    · rw [g3] at hlt ⊢
      obtain ⟨k, hk⟩ := bh_snd hW hD hv hp S S g (Nat.le_refl _) hS g2 hlt
      exact ⟨k, _, hk⟩
theorem tk_com (hW : WT t) (hD : DS 99999 (t 2) (t 3)) (hv : ∀ g, g < t 0 6 → v (6 + g) < t 0 3) (hp : p < t 0 5) {k a S s : Nat} (h : RC t v p k a S s) : tk t v p S ≤ s := by
  cases k with
  | zero =>
    obtain ⟨rfl, rfl, rfl⟩ := h
    unfold tk; rw [if_pos rfl]; exact Nat.le_refl _
  | succ k =>
    obtain ⟨g, g1, g2, g3, g4⟩ := bh_com hW hD hv hp k a S s h
    have h5 := hW.1.2.2.2.2.2.2.1
    unfold tk; split
    · omega
    · refine Nat.le_trans (fu_hit (fun g b => tkF_dn g b) (k := g) (c := bh t v p S g) (fun b => ?_) 5 _ (by omega)) g4
      have e : tkF t v p S g b = min b (bh t v p S g) := if_pos g2
      rw [e]; exact Nat.min_le_right _ _
theorem tk_far (hW : WT t) (hD : DS 99999 (t 2) (t 3)) (hv : ∀ g, g < t 0 6 → v (6 + g) < t 0 3) (hp : p < t 0 5) {S : Nat} (hS : okM t v S) (hlt : tk t v p S < 99999) : tk t v p S ≤ 38400 := by
  obtain ⟨k, a, h⟩ := tk_snd hW hD hv hp hS hlt
  have := (RC_ok hW hD hv hp k a _ _ h).2.2.2.2.1
  have := RC_k hW hD hv hp h
  omega
/-- class and reference -/
theorem W_tk (hW : WT t) (hD : DS 99999 (t 2) (t 3)) (hv : ∀ g, g < t 0 6 → v (6 + g) < t 0 3) (hp : p < t 0 5) {W : Nat → Nat} {S : Nat} (hS : okM t v S) (h0 : S ≠ 0 ∨ t 4 p = 1) : wgh t (FWc t) v p W (32 * p + S) = cf (tk t v p S) := by
  by_cases hc : t 4 p = 1
  · obtain ⟨w1, w2, w3⟩ := wgh_W hW hD hv hp hc (W := W) hS.1
    by_cases q : wgh t (FWc t) v p W (32 * p + S) < 1000000
    · obtain ⟨k, a, h⟩ := w1 q
      have l1 := tk_com hW hD hv hp h
      have l2 := (RC_ok hW hD hv hp k a _ _ h).2.2.2.2.1
      have l3 := RC_k hW hD hv hp h
      obtain ⟨k2, a2, h2⟩ := tk_snd hW hD hv hp hS (by omega)
      have := w2 k2 a2 _ h2
      rw [cf_lt (by omega)]; omega
    · by_cases r : tk t v p S < 99999
      · obtain ⟨k2, a2, h2⟩ := tk_snd hW hD hv hp hS r
        have := w2 k2 a2 _ h2; omega
      · rw [cf_ge r]; omega
  · have hS0 : S ≠ 0 := h0.resolve_right hc
    have e1 : wgh t (FWc t) v p W (32 * p + S) = 1000000 := by
      unfold wgh; rw [if_neg hc]; exact if_pos (by have := hS.1; omega)
    have e2 : ¬ tk t v p S < 99999 := fun q => by
      obtain ⟨k, a, h⟩ := tk_snd hW hD hv hp hS q
      have r := RC_ok hW hD hv hp k a _ _ h
      by_cases k0 : k = 0
      · subst k0; obtain ⟨-, rfl, -⟩ := h; exact hS0 rfl
      · exact hc (r.2.2.2.2.2 (by omega))
    rw [e1, cf_ge e2]
theorem WA_tk (hW : WT t) (hD : DS 99999 (t 2) (t 3)) (hv : ∀ g, g < t 0 6 → v (6 + g) < t 0 3) (hp : p < t 0 5) {W : Nat → Nat} {S : Nat} (hS : okM t v S) (h0 : S ≠ 0 ∨ t 4 p = 1) : wAll t (FWc t) v W (32 * p + S) = cf (tk t v p S) := by
  obtain ⟨W', e⟩ := wAll_p hW hD hv (W := W) hp hS.1
  rw [e]; exact W_tk hW hD hv hp hS h0
/-- fewer goods take no longer -/
theorem RC_del (hW : WT t) (hD : DS 99999 (t 2) (t 3)) (hv : ∀ g, g < t 0 6 → v (6 + g) < t 0 3) (hp : p < t 0 5) : ∀ k a S s, RC t v p k a S s → ∀ S2, S2 < 32 → (∀ x, x < 5 → S2.testBit x = true → S.testBit x = true) → ∃ k2 a2 s2, RC t v p k2 a2 S2 s2 ∧ s2 + t 3 (6 * a2 + a) ≤ s
  | 0, a, S, s, h, S2, h32, hs => by
    obtain ⟨rfl, rfl, rfl⟩ := h
    have h6 := hW.1.2.2.2.1
    have hp5 := (hW.2.2.2.1 p hp).2.1
    have e : S2 = 0 := by
      by_cases q : S2 = 0
      · exact q
      · obtain ⟨x, x1, x2⟩ := (show ∀ n, n < 32 → n ≠ 0 → ∃ x, x < 5 ∧ n.testBit x = true by decide +kernel) S2 h32 q
        have := hs x x1 x2; simp at this
    exact ⟨0, t 5 p, 0, ⟨rfl, e, rfl⟩, by rw [hD.1 (t 5 p) (by omega)]; exact Nat.le_refl _⟩
  | k + 1, a, S, s, h, S2, h32, hs => by
    obtain ⟨g, a', ld', s', h1, h2, h3, rfl, rfl, rfl⟩ := h
    have r1 := RC_ok hW hD hv hp k a' ld' s' h1
    have c := coK_t h3
    have h5 := hW.1.2.2.2.2.2.2.1
    have h6 := hW.1.2.2.2.1
    have hp5 := (hW.2.2.2.1 p hp).2.1
    have hgo := hW.2.2.2.2.1 g h2
    have hvg := hv g h2
    have d1 := hD.2.2.2.2.2.2 _ c.2.2.2.1
    have d2 := hD.2.2.2.2.2.2 _ c.2.2.2.2.1
    rw [c.2.2.2.2.2]
    by_cases q : S2.testBit g = true
    · have sb := sub_or S2 h32 g (by omega) q
      obtain ⟨k2, a2, s2, e1, e2⟩ := RC_del hW hD hv hp k a' ld' s' h1 (S2 - 2 ^ g) (by omega) (fun x hx hb => by
        have y := hs x hx (sub_b5 S2 h32 g (by omega) q x hx hb)
        rw [or_b5 ld' r1.2.1 g (by omega) x hx, Bool.or_eq_true, decide_eq_true_eq] at y
        rcases y with y | y
        · exact y
        · subst y; rw [sb.2.1] at hb; cases hb)
      have r2 := RC_ok hW hD hv hp k2 a2 _ s2 e1
      have t1 := hD.2.2.1 a2 a' (v (6 + g)) r2.1 r1.1 (by omega)
      have t2 := hD.2.2.1 a2 (t 5 p) (v (6 + g)) r2.1 (by omega) (by omega)
      have t3 := hD.2.2.1 (t 5 p) a' (v (6 + g)) (by omega) r1.1 (by omega)
      have sy := hD.2.2.2.2.2.1 a2 (t 5 p) r2.1 (by omega)
      have hf : t 3 (6 * a2 + v (6 + g)) < 99999 := by omega
      have hf2 := hD.2.2.2.2.2.2 _ hf
      have em : mor t (FWc t) v a2 g = t 3 (6 * a2 + v (6 + g)) + t 3 (6 * v (6 + g) + t 10 g) := by
        show cf (t 3 (6 * a2 + v (6 + g))) + cf (t 3 (6 * v (6 + g) + t 10 g)) = _
        rw [cf_lt (by omega), cf_lt (by omega)]
      refine ⟨k2 + 1, t 10 g, s2 + mor t (FWc t) v a2 g, ⟨g, a2, S2 - 2 ^ g, s2, e1, h2, coK_i sb.2.1 c.2.1 c.2.2.1 (by omega) (by omega), rfl, sb.1.symm, rfl⟩, ?_⟩
      rw [hD.1 (t 10 g) (by omega), em]; omega
    · obtain ⟨k2, a2, s2, e1, e2⟩ := RC_del hW hD hv hp k a' ld' s' h1 S2 h32 (fun x hx hb => by
        have y := hs x hx hb
        rw [or_b5 ld' r1.2.1 g (by omega) x hx, Bool.or_eq_true, decide_eq_true_eq] at y
        rcases y with y | y
        · exact y
        · subst y; exact absurd hb q)
      have r2 := RC_ok hW hD hv hp k2 a2 _ s2 e1
      have t1 := hD.2.2.1 a2 a' (t 10 g) r2.1 r1.1 (by omega)
      have t2 := hD.2.2.1 a' (v (6 + g)) (t 10 g) r1.1 (by omega) (by omega)
      exact ⟨k2, a2, s2, e1, by omega⟩
theorem tk_mono (hW : WT t) (hD : DS 99999 (t 2) (t 3)) (hv : ∀ g, g < t 0 6 → v (6 + g) < t 0 3) (hp : p < t 0 5) {S S2 : Nat} (hS : okM t v S) (h32 : S2 < 32) (hs : ∀ x, x < 5 → S2.testBit x = true → S.testBit x = true) : tk t v p S2 ≤ tk t v p S := by
  by_cases q : tk t v p S < 99999
  · obtain ⟨k, a, h⟩ := tk_snd hW hD hv hp hS q
    obtain ⟨k2, a2, s2, e1, e2⟩ := RC_del hW hD hv hp k a S _ h S2 h32 hs
    have := tk_com hW hD hv hp e1
    omega
  · have := tk_le (t := t) (v := v) (p := p) S2; omega
/-- goods that can be carried one by one can be carried -/
theorem RC_all (hW : WT t) (hD : DS 99999 (t 2) (t 3)) (hv : ∀ g, g < t 0 6 → v (6 + g) < t 0 3) (hp : p < t 0 5) : ∀ n S, S ≤ n → okM t v S → (∀ g, S.testBit g = true → canC t v p g = true) → ∃ k a s, RC t v p k a S s := by
  intro n
  induction n with
  | zero => intro S hn _ _; exact ⟨0, t 5 p, 0, rfl, by omega, rfl⟩
  | succ n ih =>
    intro S hn hS hc
    by_cases h0 : S = 0
    · exact ⟨0, t 5 p, 0, rfl, h0, rfl⟩
    · obtain ⟨g, g5, hg⟩ := (show ∀ n, n < 32 → n ≠ 0 → ∃ x, x < 5 ∧ n.testBit x = true by decide +kernel) S hS.1 h0
      have sb := sub_or S hS.1 g g5 hg
      obtain ⟨k, a, s, h⟩ := ih (S - 2 ^ g) (by omega) (hS.sub hg) (fun x hx => hc x (sub_b5 S hS.1 g g5 hg x (bit_32 (by have := hS.1; omega) hx) hx))
      have r := RC_ok hW hD hv hp k a _ s h
      have c := canC_t (hc g hg)
      have h6 := hW.1.2.2.2.1
      have hp5 := (hW.2.2.2.1 p hp).2.1
      have hvg := hv g c.1
      have e1 := hD.2.2.2.2.2.2 _ c.2.2.1
      have e2 := hD.2.2.2.2.2.2 _ c.2.2.2
      have t1 := hD.2.2.1 a (t 5 p) (v (6 + g)) r.1 (by omega) (by omega)
      have sy := hD.2.2.2.2.2.1 a (t 5 p) r.1 (by omega)
      exact ⟨k + 1, t 10 g, _, g, a, S - 2 ^ g, s, h, c.1, coK_i sb.2.1 (hS.2 g hg).2 c.2.1 (by omega) (by omega), rfl, sb.1.symm, rfl⟩
theorem tk_1 (hW : WT t) (hD : DS 99999 (t 2) (t 3)) (hv : ∀ g, g < t 0 6 → v (6 + g) < t 0 3) (hp : p < t 0 5) {g : Nat} (hg : g < t 0 6) (hm : mgo t v g = true) : decide (tk t v p (2 ^ g) < 99999) = canC t v p g := by
  have h5 := hW.1.2.2.2.2.2.2.1
  have b1 : ∀ x, (2 ^ g).testBit x = true → x = g := fun x hx => by rw [Nat.testBit_two_pow, decide_eq_true_eq] at hx; exact hx.symm
  have hS : okM t v (2 ^ g) := ⟨(Nat.pow_lt_pow_right (show 1 < 2 by decide) (show g < 5 by omega) : 2 ^ g < 2 ^ 5), fun x hx => by rw [b1 x hx]; exact ⟨hg, hm⟩⟩
  cases hc : canC t v p g
  · refine decide_eq_false (fun q => ?_)
    have h0 : 2 ^ g ≠ 0 := by have := Nat.two_pow_pos g; omega
    unfold tk at q
    rw [if_neg h0] at q
    rcases tkF_hit (t := t) (v := v) (p := p) (S := 2 ^ g) (b := 99999) 5 with h | ⟨f, f1, f2, f3⟩
    · rw [h] at q; omega
    · rw [f3] at q
      have := (bh_can q).2
      rw [b1 f f2, hc] at this; cases this
  · obtain ⟨k, a, s, h⟩ := RC_all hW hD hv hp (2 ^ g) (2 ^ g) (Nat.le_refl _) hS (fun x hx => by rw [b1 x hx]; exact hc)
    have := tk_com hW hD hv hp h
    have := (RC_ok hW hD hv hp k a _ s h).2.2.2.2.1
    have := RC_k hW hD hv hp h
    exact decide_eq_true (by omega)
end CRY
