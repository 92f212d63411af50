/-! PURE: the soonest ways: class and reference lay the same table; what it has -/
def fwG (H : Nat) (f : Nat → Nat) : Nat → Nat := fu (fun o f => fu (fun h f => fu (fun g f => stC o h g f) H f) H f) H f
theorem stM_C (o h g : Nat) (f : Nat → Nat) : stM o h g f = stC o h g f := by
  unfold stM stC
  funext j
  by_cases q : f (6 * h + o) + f (6 * o + g) < f (6 * h + g)
  · rw [if_pos q, Nat.min_eq_right (Nat.le_of_lt q)]
  · rw [if_neg q, Nat.min_eq_left (by omega)]; unfold upN; split
    · next e => rw [e]
    · rfl
theorem fwM_G (mn : Nat → Nat) (H : Nat) : fwM mn H = fwG H (iniM mn) := by
  unfold fwM fwG
  have : (fun (o : Nat) (f : Nat → Nat) => fu (fun h f => fu (fun g f => stM o h g f) H f) H f) = (fun o f => fu (fun h f => fu (fun g f => stC o h g f) H f) H f) := by
    funext o f
    have : (fun (h : Nat) (f : Nat → Nat) => fu (fun g f => stM o h g f) H f) = (fun h f => fu (fun g f => stC o h g f) H f) := by
      funext h f
      have : (fun (g : Nat) (f : Nat → Nat) => stM o h g f) = (fun g f => stC o h g f) := by funext g f; exact stM_C o h g f
      rw [this]
    rw [this]
  rw [this]
theorem fwC_G (mn : Nat → Nat) : fwC mn = fwG 6 (iniC mn) := rfl
/-- a turn as if at once -/
def ph (H o : Nat) (f : Nat → Nat) : Nat → Nat := fun i => if i / 6 < H ∧ i % 6 < H then min (f i) (f (6 * (i / 6) + o) + f (6 * o + i % 6)) else f i
def phg (H o h n : Nat) (f : Nat → Nat) : Nat → Nat := fun i => if i / 6 = h ∧ i % 6 < n then min (f i) (f (6 * h + o) + f (6 * o + i % 6)) else f i
def phh (H o n : Nat) (f : Nat → Nat) : Nat → Nat := fun i => if i / 6 < n ∧ i % 6 < H then min (f i) (f (6 * (i / 6) + o) + f (6 * o + i % 6)) else f i
theorem phg_col {H o h n : Nat} {f : Nat → Nat} (h0 : f (6 * o + o) = 0) (hh : h < 6) (ho : o < 6) : phg H o h n f (6 * h + o) = f (6 * h + o) := by
  unfold phg; split
  · rw [show (6 * h + o) % 6 = o by omega, h0]; omega
  · rfl
theorem phg_row {H o h n g : Nat} {f : Nat → Nat} (h0 : f (6 * o + o) = 0) (hh : h < 6) (ho : o < 6) (hg : g < 6) : phg H o h n f (6 * o + g) = f (6 * o + g) := by
  unfold phg; split
  · next q =>
    rw [show (6 * o + g) / 6 = o by omega] at q
    rw [← q.1, h0, show (6 * o + g) % 6 = g by omega]; omega
  · rfl
theorem fu_phg {H o h : Nat} (hH : H ≤ 6) (hh : h < 6) (ho : o < 6) {f : Nat → Nat} (h0 : f (6 * o + o) = 0) : ∀ n, n ≤ H → fu (fun g f => stC o h g f) n f = phg H o h n f := by
  intro n
  induction n with
  | zero => intro _; funext i; unfold fu phg; rw [if_neg (by omega)]
  | succ n ih =>
    intro hn
    show stC o h n (fu (fun g f => stC o h g f) n f) = _
    rw [ih (by omega)]
    unfold stC
    rw [phg_col h0 hh ho, phg_row h0 hh ho (show n < 6 by omega)]
    funext i
    unfold upN
    split
    · next e =>
      subst e
      unfold phg
      rw [if_neg (by omega), if_pos (by omega), show (6 * h + n) % 6 = n by omega]
    · next e =>
      unfold phg
      by_cases q : i / 6 = h ∧ i % 6 < n
      · rw [if_pos q, if_pos (by omega)]
      · rw [if_neg q, if_neg (by omega)]
theorem phh_col {H o n a : Nat} {f : Nat → Nat} (h0 : f (6 * o + o) = 0) (ha : a < 6) (ho : o < 6) : phh H o n f (6 * a + o) = f (6 * a + o) := by
  unfold phh; split
  · rw [show (6 * a + o) % 6 = o by omega, show (6 * a + o) / 6 = a by omega, h0]; omega
  · rfl
theorem phh_row {H o n g : Nat} {f : Nat → Nat} (h0 : f (6 * o + o) = 0) (ho : o < 6) (hg : g < 6) : phh H o n f (6 * o + g) = f (6 * o + g) := by
  unfold phh; split
  · rw [show (6 * o + g) % 6 = g by omega, show (6 * o + g) / 6 = o by omega, h0]; omega
  · rfl
theorem fu_phh {H o : Nat} (hH : H ≤ 6) (ho : o < 6) {f : Nat → Nat} (h0 : f (6 * o + o) = 0) : ∀ n, n ≤ H → fu (fun h f => fu (fun g f => stC o h g f) H f) n f = phh H o n f := by
  intro n
  induction n with
  | zero => intro _; funext i; unfold fu phh; rw [if_neg (by omega)]
  | succ n ih =>
    intro hn
    show fu (fun g f => stC o n g f) H (fu (fun h f => fu (fun g f => stC o h g f) H f) n f) = _
    rw [ih (by omega)]
    have h00 : phh H o n f (6 * o + o) = 0 := by rw [phh_col h0 ho ho, h0]
    rw [fu_phg hH (by omega) ho h00 H (Nat.le_refl _)]
    funext i
    unfold phg
    by_cases q : i / 6 = n ∧ i % 6 < H
    · rw [if_pos q, phh_col h0 (by omega) ho, phh_row h0 ho (by omega)]
      unfold phh
      rw [if_neg (by omega), if_pos (by omega), q.1]
    · rw [if_neg q]
      unfold phh
      by_cases q2 : i / 6 < n ∧ i % 6 < H
      · rw [if_pos q2, if_pos (by omega)]
      · rw [if_neg q2, if_neg (by omega)]
theorem fu_ph {H o : Nat} (hH : H ≤ 6) (ho : o < 6) {f : Nat → Nat} (h0 : f (6 * o + o) = 0) : fu (fun h f => fu (fun g f => stC o h g f) H f) H f = ph H o f := fu_phh hH ho h0 H (Nat.le_refl _)
/-- what holds behind the turns of the houses below k -/
def FWI (H INF : Nat) (w : Nat → Nat) (k : Nat) (f : Nat → Nat) : Prop :=
  (∀ a, a < 6 → f (6 * a + a) = 0) ∧ (∀ i, f i ≤ INF) ∧ (∀ o, o < k → ∀ a c, a < 6 → c < 6 → f (6 * a + c) ≤ f (6 * a + o) + f (6 * o + c)) ∧
  (∀ a g, a < 6 → g < 6 → a ≠ g → f (6 * a + g) < INF → ∃ b, b < 6 ∧ 0 < w (6 * a + b) ∧ w (6 * a + b) + f (6 * b + g) ≤ f (6 * a + g)) ∧
  (∀ a b, a < 6 → b < 6 → 0 < w (6 * a + b) → f (6 * a + b) ≤ w (6 * a + b)) ∧
  (∀ a b, a < 6 → b < 6 → f (6 * a + b) = f (6 * b + a)) ∧
  (∀ a b, a < 6 → b < 6 → a ≠ b → (H ≤ a ∨ H ≤ b) → f (6 * a + b) = INF) ∧
  (∀ i, f i < INF → f i ≤ 60 * 2 ^ k)
theorem FWI.step {H INF k : Nat} {w f : Nat → Nat} (hH : H ≤ 6) (hk : k < H) (h : FWI H INF w k f) : FWI H INF w (k + 1) (ph H k f) := by
  obtain ⟨h1, h2, h3, h4, h5, h6, h7, h8⟩ := h
  have le : ∀ i, ph H k f i ≤ f i := fun i => by unfold ph; split <;> omega
  have th : ∀ a c, a < 6 → c < 6 → ph H k f (6 * a + c) ≤ f (6 * a + k) + f (6 * k + c) := by
    intro a c ha hc
    by_cases q : a < H ∧ c < H
    · unfold ph
      rw [show (6 * a + c) / 6 = a by omega, show (6 * a + c) % 6 = c by omega, if_pos q]; omega
    · by_cases e : a = c
      · subst e; have := le (6 * a + a); have := h1 a ha; omega
      · have := h7 a c ha hc e (by omega)
        have := le (6 * a + c)
        by_cases e1 : a < H
        · have := h7 k c (by omega) hc (by omega) (by omega); omega
        · have := h7 a k ha (by omega) (by omega) (by omega); omega
  have ca : ∀ a c, a < 6 → c < 6 → ph H k f (6 * a + c) = f (6 * a + c) ∨ (a < H ∧ c < H ∧ ph H k f (6 * a + c) = f (6 * a + k) + f (6 * k + c)) := by
    intro a c ha hc
    unfold ph
    rw [show (6 * a + c) / 6 = a by omega, show (6 * a + c) % 6 = c by omega]
    split
    · next q =>
      by_cases e : f (6 * a + c) ≤ f (6 * a + k) + f (6 * k + c)
      · left; omega
      · right; exact ⟨q.1, q.2, by omega⟩
    · left; rfl
  have col : ∀ a, a < 6 → ph H k f (6 * a + k) = f (6 * a + k) := fun a ha => by
    rcases ca a k ha (by omega) with q | q
    · exact q
    · rw [q.2.2, h1 k (by omega)]; omega
  have row : ∀ c, c < 6 → ph H k f (6 * k + c) = f (6 * k + c) := fun c hc => by
    rcases ca k c (by omega) hc with q | q
    · exact q
    · rw [q.2.2, h1 k (by omega)]; omega
  refine ⟨fun a ha => ?_, fun i => Nat.le_trans (le i) (h2 i), fun o ho a c ha hc => ?_, fun a g ha hg hag hlt => ?_, fun a b ha hb hw => Nat.le_trans (le _) (h5 a b ha hb hw), fun a b ha hb => ?_, fun a b ha hb hab hHH => ?_, fun i hi => ?_⟩
  · have := le (6 * a + a); have := h1 a ha; omega
  · by_cases e : o = k
    · subst e; rw [col a ha, row c hc]; exact th a c ha hc
    · have ho6 : o < 6 := by omega
      have i1 := h3 o (by omega)
      have t1 := th a c ha hc
      rcases ca a o ha ho6 with q | q <;> rcases ca o c ho6 hc with r | r
      · have := i1 a c ha hc; have := le (6 * a + c); omega
      · have := i1 a k ha (by omega); omega
      · have := i1 k c (by omega) hc; omega
      · omega
  · rcases ca a g ha hg with q | q
    · obtain ⟨b, b1, b2, b3⟩ := h4 a g ha hg hag (by omega)
      exact ⟨b, b1, b2, by have := le (6 * b + g); omega⟩
    · by_cases e : a = k
      · subst e
        rw [row g hg] at hlt ⊢
        obtain ⟨b, b1, b2, b3⟩ := h4 a g ha hg hag hlt
        exact ⟨b, b1, b2, by have := le (6 * b + g); omega⟩
      · obtain ⟨b, b1, b2, b3⟩ := h4 a k ha (by omega) e (by omega)
        exact ⟨b, b1, b2, by have := th b g b1 hg; omega⟩
  · have s1 := h6 a b ha hb
    have s2 := h6 a k ha (by omega)
    have s3 := h6 k b (by omega) hb
    unfold ph
    rw [show (6 * a + b) / 6 = a by omega, show (6 * a + b) % 6 = b by omega, show (6 * b + a) / 6 = b by omega, show (6 * b + a) % 6 = a by omega]
    by_cases q : a < H ∧ b < H
    · rw [if_pos q, if_pos ⟨q.2, q.1⟩, s1, s2, s3, Nat.add_comm (f (6 * k + a)) (f (6 * b + k))]
    · rw [if_neg q, if_neg (fun e => q ⟨e.2, e.1⟩), s1]
  · unfold ph
    rw [show (6 * a + b) / 6 = a by omega, show (6 * a + b) % 6 = b by omega, if_neg (by omega)]
    exact h7 a b ha hb hab hHH
  · rw [Nat.pow_succ]
    unfold ph at hi ⊢
    split
    · next q =>
      rw [if_pos q] at hi
      by_cases e : f i ≤ f (6 * (i / 6) + k) + f (6 * k + i % 6)
      · have := h8 i (by omega); omega
      · have := h8 (6 * (i / 6) + k) (by omega); have := h8 (6 * k + i % 6) (by omega); omega
    · next q => rw [if_neg q] at hi; have := h8 i hi; omega
theorem FWI.all {H INF : Nat} {w f : Nat → Nat} (hH : H ≤ 6) (h : FWI H INF w 0 f) : FWI H INF w H (fwG H f) := by
  have key : ∀ n, n ≤ H → FWI H INF w n (fu (fun o f => fu (fun h f => fu (fun g f => stC o h g f) H f) H f) n f) := by
    intro n
    induction n with
    | zero => intro _; exact h
    | succ n ih =>
      intro hn
      have := ih (by omega)
      show FWI H INF w (n + 1) (fu (fun h f => fu (fun g f => stC n h g f) H f) H (fu (fun o f => fu (fun h f => fu (fun g f => stC o h g f) H f) H f) n f))
      rw [fu_ph hH (by omega) (this.1 n (by omega))]
      exact this.step hH (by omega)
  exact key H (Nat.le_refl _)
/-- a table of the soonest ways -/
def DS (INF : Nat) (w f : Nat → Nat) : Prop :=
  (∀ a, a < 6 → f (6 * a + a) = 0) ∧ (∀ i, f i ≤ INF) ∧ (∀ a o c, a < 6 → o < 6 → c < 6 → f (6 * a + c) ≤ f (6 * a + o) + f (6 * o + c)) ∧
  (∀ a g, a < 6 → g < 6 → a ≠ g → f (6 * a + g) < INF → ∃ b, b < 6 ∧ 0 < w (6 * a + b) ∧ w (6 * a + b) + f (6 * b + g) = f (6 * a + g)) ∧
  (∀ a b, a < 6 → b < 6 → 0 < w (6 * a + b) → f (6 * a + b) ≤ w (6 * a + b)) ∧
  (∀ a b, a < 6 → b < 6 → f (6 * a + b) = f (6 * b + a)) ∧ (∀ i, f i < INF → f i ≤ 3840)
theorem FWI.ds {H INF : Nat} {w f : Nat → Nat} (hH : H ≤ 6) (h : FWI H INF w H f) : DS INF w f := by
  obtain ⟨h1, h2, h3, h4, h5, h6, h7, h8⟩ := h
  have tri : ∀ a o c, a < 6 → o < 6 → c < 6 → f (6 * a + c) ≤ f (6 * a + o) + f (6 * o + c) := by
    intro a o c ha ho hc
    by_cases q : o < H
    · exact h3 o q a c ha hc
    · by_cases e : a = o
      · subst e; have := h1 a ha; omega
      · have := h7 a o ha ho e (by omega); have := h2 (6 * a + c); omega
  refine ⟨h1, h2, tri, fun a g ha hg hag hlt => ?_, h5, h6, fun i hi => ?_⟩
  · obtain ⟨b, b1, b2, b3⟩ := h4 a g ha hg hag hlt
    have := tri a b g ha b1 hg
    have := h5 a b ha b1 b2
    exact ⟨b, b1, b2, by omega⟩
  · have e1 := h8 i hi
    have e2 : 2 ^ H ≤ 2 ^ 6 := Nat.pow_le_pow_right (by decide) hH
    omega
theorem DS.le {I J : Nat} {w f g : Nat → Nat} (hf : DS I w f) (hg : DS J w g) : ∀ n a b, a < 6 → b < 6 → f (6 * a + b) ≤ n → f (6 * a + b) < I → g (6 * a + b) ≤ f (6 * a + b) := by
  intro n
  induction n with
  | zero =>
    intro a b ha hb hn hI
    by_cases e : a = b
    · subst e; rw [hg.1 a ha]; omega
    · obtain ⟨c, c1, c2, c3⟩ := hf.2.2.2.1 a b ha hb e hI; omega
  | succ n ih =>
    intro a b ha hb hn hI
    by_cases e : a = b
    · subst e; rw [hg.1 a ha]; omega
    · obtain ⟨c, c1, c2, c3⟩ := hf.2.2.2.1 a b ha hb e hI
      have i1 := ih c b c1 hb (by omega) (by omega)
      have i2 := hg.2.2.1 a c b ha c1 hb
      have i3 := hg.2.2.2.2.1 a c ha c1 c2
      omega
theorem iniM_I {w : Nat → Nat} {H : Nat} (hw : ∀ i, w i ≤ 60) (hs : ∀ a b, a < 6 → b < 6 → w (6 * a + b) = w (6 * b + a)) (hz : ∀ a b, a < 6 → b < 6 → (H ≤ a ∨ H ≤ b) → w (6 * a + b) = 0) {INF : Nat} (hI : 60 < INF) {f : Nat → Nat} (hf : f = fun k => if k / 6 = k % 6 then 0 else if 0 < w k then w k else INF) : FWI H INF w 0 f := by
  have fe : ∀ a b, a < 6 → b < 6 → f (6 * a + b) = if a = b then 0 else if 0 < w (6 * a + b) then w (6 * a + b) else INF := by
    intro a b ha hb
    rw [hf]
    show (if (6 * a + b) / 6 = (6 * a + b) % 6 then 0 else _) = _
    rw [show (6 * a + b) / 6 = a by omega, show (6 * a + b) % 6 = b by omega]
  have f0 : ∀ a, a < 6 → f (6 * a + a) = 0 := fun a ha => by rw [fe a a ha ha, if_pos rfl]
  refine ⟨f0, fun i => ?_, fun o ho => absurd ho (Nat.not_lt_zero _), fun a g ha hg hag hlt => ?_, fun a b ha hb h => ?_, fun a b ha hb => ?_, fun a b ha hb hab hh => ?_, fun i hi => ?_⟩
  · rw [hf]; show (if _ then _ else _) ≤ _; have := hw i; split
    · omega
    · split <;> omega
  · rw [fe a g ha hg, if_neg hag] at hlt ⊢
    by_cases q : 0 < w (6 * a + g)
    · rw [if_pos q]; exact ⟨g, hg, q, by rw [f0 g hg]; omega⟩
    · rw [if_neg q] at hlt; omega
  · rw [fe a b ha hb]; split
    · omega
    · exact Nat.le_of_eq (by first | rfl | exact if_pos h)
  · rw [fe a b ha hb, fe b a hb ha, hs a b ha hb]
    by_cases e : a = b
    · rw [if_pos e, if_pos e.symm]
    · rw [if_neg e, if_neg (show ¬ b = a from fun q => e q.symm)]
  · rw [fe a b ha hb, if_neg hab, hz a b ha hb hh]; rfl
  · rw [hf] at hi ⊢
    show (if _ then _ else _) ≤ _
    have := hw i
    split
    · omega
    · split
      · omega
      · next q r => simp only [q, r, if_false] at hi; omega
section FWT
variable {t : TW}
theorem ds_M (hW : WT t) (hL : LT t) : DS 99999 (t 2) (fwM (t 2) (t 0 3)) := by
  rw [fwM_G]
  exact (FWI.all hW.1.2.2.2.1 (iniM_I hW.2.2.1 hL.2.2.2.2.2.1 (fun a b ha hb h => hL.2.2.2.2.2.2.2.1 a b ha hb h) (by decide) (f := iniM (t 2)) rfl)).ds hW.1.2.2.2.1
theorem ds_C (hW : WT t) (hL : LT t) : DS 1000000 (t 2) (fwC (t 2)) := by
  rw [fwC_G]
  exact (FWI.all (Nat.le_refl 6) (iniM_I hW.2.2.1 hL.2.2.2.2.2.1 (fun a b ha hb h => absurd h (by omega)) (by decide) (f := iniC (t 2)) rfl)).ds (Nat.le_refl 6)
/-- class and reference lay the same table -/
theorem fw_eq (hW : WT t) (hL : LT t) {i : Nat} (hi : i < 36) : cf (fwM (t 2) (t 0 3) i) = fwC (t 2) i := by
  have hM := ds_M hW hL
  have hC := ds_C hW hL
  have e : i = 6 * (i / 6) + i % 6 := by omega
  have l1 := hM.le hC (fwM (t 2) (t 0 3) i) (i / 6) (i % 6) (by omega) (by omega)
  have l2 := hC.le hM (fwC (t 2) i) (i / 6) (i % 6) (by omega) (by omega)
  rw [← e] at l1 l2
  have b1 := hM.2.1 i
  have b2 := hC.2.1 i
  have b3 := hC.2.2.2.2.2.2 i
  unfold cf
  by_cases q : fwM (t 2) (t 0 3) i < 99999
  · rw [if_pos q]
    have := l1 (Nat.le_refl _) q
    have := l2 (Nat.le_refl _) (by omega)
    omega
  · rw [if_neg q]
    by_cases r : fwC (t 2) i < 1000000
    · have := l2 (Nat.le_refl _) r; have := b3 r; omega
    · omega
end FWT
