/-! what holds of a town while it is read; the class: readsLine, endsWell, reads -/
theorem eb_inr {α β : Type} {x : ER α} {f : α → ER β} {b : β} (h : eb x f = .inr b) : ∃ a, x = .inr a ∧ f a = .inr b := by
  cases x with
  | inl e => exact absurd h (by simp [eb])
  | inr a => exact ⟨a, rfl, h⟩
theorem ut_r (t : TW) (r i x j : Nat) : ut t r i x r j = if j = i then x else t r j := by
  by_cases e : j = i
  · rw [if_pos e, e, ut_at]
  · rw [if_neg e, ut_ne _ _ (fun q => e q.2)]
theorem ut_o (t : TW) {r r' : Nat} (i x : Nat) (h : r' ≠ r) : ut t r i x r' = t r' := by
  funext j; rw [ut_ne _ _ (fun q => h q.1)]
/-- what a town that is being read has besides -/
def LL (t : TW) : Prop := (0 < t 0 2 → 4 ≤ t 0 0 ∧ 12 ≤ t 0 1 ∧ 60 ≤ t 0 2) ∧ (∀ a b, a < 6 → b < 6 → t 2 (6 * a + b) = t 2 (6 * b + a)) ∧ (∀ a, a < 6 → t 2 (6 * a + a) = 0) ∧ (∀ a b, a < 6 → b < 6 → (t 0 3 ≤ a ∨ t 0 3 ≤ b) → t 2 (6 * a + b) = 0) ∧ ∀ g, g < t 0 6 → t 9 g ≠ t 10 g
theorem LL.lt {t : TW} (h : LL t) (ht : 0 < t 0 2) (h3 : t 0 3 ≠ 0) (h5 : t 0 5 ≠ 0) : LT t := ⟨(h.1 ht).1, (h.1 ht).2.1, (h.1 ht).2.2, by omega, by omega, h.2.1, h.2.2.1, h.2.2.2.1, h.2.2.2.2⟩
section INV
variable {B : Nat → Nat} {n : Nat} {N : NS} {t : TW} {s s' : RS}
theorem WT.town {a b c : Nat} (h : WT t) (ha : a ≤ 11) (hb : b ≤ 22) (hc : c ≤ 120) : WT (ut (ut (ut t 0 0 a) 0 1 b) 0 2 c) := by
  refine ⟨⟨ha, hb, hc, h.1.2.2.2.1, h.1.2.2.2.2.1, h.1.2.2.2.2.2.1, h.1.2.2.2.2.2.2.1, h.1.2.2.2.2.2.2.2.1, h.1.2.2.2.2.2.2.2.2⟩, h.2.1, h.2.2.1, h.2.2.2.1, h.2.2.2.2.1, h.2.2.2.2.2.1, h.2.2.2.2.2.2⟩
theorem LL.town {a b c : Nat} (h : LL t) (ha : 4 ≤ a) (hb : 12 ≤ b) (hc : 60 ≤ c) : LL (ut (ut (ut t 0 0 a) 0 1 b) 0 2 c) := ⟨fun _ => ⟨ha, hb, hc⟩, h.2⟩
theorem WT.house {x : Nat} (h : WT t) (hc : t 0 3 < 6) (h1 : 10 ≤ x) (h2 : x ≤ 59) : WT (ut (ut t 1 (t 0 3) x) 0 3 (t 0 3 + 1)) := by
  have w := h.1
  refine ⟨⟨w.1, w.2.1, w.2.2.1, hc, w.2.2.2.2.1, w.2.2.2.2.2.1, w.2.2.2.2.2.2.1, w.2.2.2.2.2.2.2.1, w.2.2.2.2.2.2.2.2⟩, fun j hj => ?_, h.2.2.1, fun p hp => ?_, fun g hg => ?_, fun v hv => ?_, fun k hk => ?_⟩
  · have hj : j < t 0 3 + 1 := hj
    rw [ut_o _ _ _ (by decide), ut_r]
    split
    · exact ⟨h1, h2⟩
    · exact h.2.1 j (by omega)
  · have q := h.2.2.2.1 p hp
    exact ⟨q.1, (show t 5 p < t 0 3 + 1 by omega), q.2.2⟩
  · have q := h.2.2.2.2.1 g hg
    exact ⟨q.1, q.2.1, (show t 9 g < t 0 3 + 1 by omega), (show t 10 g < t 0 3 + 1 by omega)⟩
  · have q := h.2.2.2.2.2.1 v hv
    exact ⟨q.1, (show t 12 v < t 0 3 + 1 by omega), q.2.2⟩
  · have q := h.2.2.2.2.2.2 k hk
    exact ⟨(show t 14 k < t 0 3 + 1 by omega), q.2⟩
theorem LL.house {x : Nat} (h : LL t) : LL (ut (ut t 1 (t 0 3) x) 0 3 (t 0 3 + 1)) := by
  refine ⟨h.1, h.2.1, h.2.2.1, fun a b ha hb q => ?_, h.2.2.2.2⟩
  have q : t 0 3 + 1 ≤ a ∨ t 0 3 + 1 ≤ b := q
  exact h.2.2.2.1 a b ha hb (by omega)
theorem WT.lane {a b x : Nat} (h : WT t) (hc : t 0 4 < 9) (h2 : x ≤ 60) : WT (ut (ut (ut t 2 (6 * a + b) x) 2 (6 * b + a) x) 0 4 (t 0 4 + 1)) := by
  have w := h.1
  refine ⟨⟨w.1, w.2.1, w.2.2.1, w.2.2.2.1, hc, w.2.2.2.2.2.1, w.2.2.2.2.2.2.1, w.2.2.2.2.2.2.2.1, w.2.2.2.2.2.2.2.2⟩, h.2.1, fun i => ?_, h.2.2.2.1, h.2.2.2.2.1, h.2.2.2.2.2.1, h.2.2.2.2.2.2⟩
  rw [ut_o _ _ _ (by decide), ut_r]
  split
  · exact h2
  · rw [ut_r]; split
    · exact h2
    · exact h.2.2.1 i
theorem LL.lane {a b x : Nat} (h : LL t) (ha : a < t 0 3) (hb : b < t 0 3) (h6 : t 0 3 ≤ 6) (hab : b ≠ a) : LL (ut (ut (ut t 2 (6 * a + b) x) 2 (6 * b + a) x) 0 4 (t 0 4 + 1)) := by
  have e : ∀ i, ut (ut (ut t 2 (6 * a + b) x) 2 (6 * b + a) x) 0 4 (t 0 4 + 1) 2 i = if i = 6 * b + a then x else if i = 6 * a + b then x else t 2 i := fun i => by
    rw [ut_o _ _ _ (by decide), ut_r, ut_r]
  refine ⟨h.1, fun c d hc hd => ?_, fun c hc => ?_, fun c d hc hd q => ?_, h.2.2.2.2⟩
  · rw [e, e, h.2.1 c d hc hd]
    by_cases q1 : 6 * c + d = 6 * b + a
    · rw [if_pos q1]
      by_cases q2 : 6 * d + c = 6 * b + a
      · rw [if_pos q2]
      · rw [if_neg q2, if_pos (by omega)]
    · rw [if_neg q1]
      by_cases q3 : 6 * c + d = 6 * a + b
      · rw [if_pos q3, if_pos (by omega)]
      · rw [if_neg q3, if_neg (by omega), if_neg (by omega)]
  · rw [e, if_neg (by omega), if_neg (by omega)]; exact h.2.2.1 c hc
  · have q : t 0 3 ≤ c ∨ t 0 3 ≤ d := q
    rw [e, if_neg (by omega), if_neg (by omega)]; exact h.2.2.2.1 c d hc hd q
theorem pMk_o (t : TW) (p u l : Nat) {r : Nat} (h : r ≠ 7) : pMk t p u l r = t r := by unfold pMk; rw [ut_o _ _ _ h, ut_o _ _ _ h, ut_o _ _ _ h, ut_o _ _ _ h, ut_o _ _ _ h]
theorem pMk_7 (t : TW) (p u l i : Nat) : pMk t p u l 7 i = if i = 5 * p + 3 then l / 4 % 4 else if i = 5 * p + 4 then l % 4 else if i = 5 * p then u / 4 / 4 % 4 else if i = 5 * p + 1 then u / 4 % 4 else if i = 5 * p + 2 then u % 4 else t 7 i := by
  unfold pMk; rw [ut_r, ut_r, ut_r, ut_r, ut_r]
theorem WT.person {k h x u l : Nat} (w : WT t) (hc : t 0 5 < 6) (hk : k ≤ 2) (hh : h < t 0 3) (h1 : 20 ≤ x) (h2 : x ≤ 99) : WT (ut (pMk (ut (ut (ut t 4 (t 0 5) k) 5 (t 0 5) h) 6 (t 0 5) x) (t 0 5) u l) 0 5 (t 0 5 + 1)) := by
  have z := w.1
  refine ⟨⟨z.1, z.2.1, z.2.2.1, z.2.2.2.1, z.2.2.2.2.1, hc, z.2.2.2.2.2.2.1, z.2.2.2.2.2.2.2.1, z.2.2.2.2.2.2.2.2⟩, w.2.1, w.2.2.1, fun p hp => ?_, w.2.2.2.2.1, fun v hv => ?_, w.2.2.2.2.2.2⟩
  · have hp : p < t 0 5 + 1 := hp
    have e4 : ut (pMk (ut (ut (ut t 4 (t 0 5) k) 5 (t 0 5) h) 6 (t 0 5) x) (t 0 5) u l) 0 5 (t 0 5 + 1) 4 p = if p = t 0 5 then k else t 4 p := by
      rw [ut_o _ _ _ (by decide), pMk_o _ _ _ _ (by decide), ut_o _ _ _ (by decide), ut_o _ _ _ (by decide), ut_r]
    have e5 : ut (pMk (ut (ut (ut t 4 (t 0 5) k) 5 (t 0 5) h) 6 (t 0 5) x) (t 0 5) u l) 0 5 (t 0 5 + 1) 5 p = if p = t 0 5 then h else t 5 p := by
      rw [ut_o _ _ _ (by decide), pMk_o _ _ _ _ (by decide), ut_o _ _ _ (by decide), ut_r, ut_o _ _ _ (by decide)]
    have e6 : ut (pMk (ut (ut (ut t 4 (t 0 5) k) 5 (t 0 5) h) 6 (t 0 5) x) (t 0 5) u l) 0 5 (t 0 5 + 1) 6 p = if p = t 0 5 then x else t 6 p := by
      rw [ut_o _ _ _ (by decide), pMk_o _ _ _ _ (by decide), ut_r, ut_o _ _ _ (by decide), ut_o _ _ _ (by decide)]
    have e3 : ut (pMk (ut (ut (ut t 4 (t 0 5) k) 5 (t 0 5) h) 6 (t 0 5) x) (t 0 5) u l) 0 5 (t 0 5 + 1) 0 3 = t 0 3 := rfl
    rw [e4, e5, e6, e3]
    by_cases q : p = t 0 5
    · rw [if_pos q, if_pos q, if_pos q]
      refine ⟨hk, hh, h1, h2, fun i hi => ?_⟩
      rw [ut_o _ _ _ (by decide), pMk_7]
      have a4 : ∀ y : Nat, y % 4 < 4 := fun y => Nat.mod_lt _ (by decide)
      split
      · exact a4 _
      · split
        · exact a4 _
        · split
          · exact a4 _
          · split
            · exact a4 _
            · split
              · exact a4 _
              · omega
    · rw [if_neg q, if_neg q, if_neg q]
      have y := w.2.2.2.1 p (by omega)
      refine ⟨y.1, y.2.1, y.2.2.1, y.2.2.2.1, fun i hi => ?_⟩
      rw [ut_o _ _ _ (by decide), pMk_7, if_neg (by omega), if_neg (by omega), if_neg (by omega), if_neg (by omega), if_neg (by omega)]
      exact y.2.2.2.2 i hi
  · have q := w.2.2.2.2.2.1 v hv
    exact ⟨(show t 11 v < t 0 5 + 1 by omega), q.2⟩
theorem LL.person {k h x u l : Nat} (w : LL t) : LL (ut (pMk (ut (ut (ut t 4 (t 0 5) k) 5 (t 0 5) h) 6 (t 0 5) x) (t 0 5) u l) 0 5 (t 0 5 + 1)) := w
theorem WT.good {x a b : Nat} (h : WT t) (hc : t 0 6 < 5) (h1 : 1 ≤ x) (h2 : x ≤ 150) (ha : a < t 0 3) (hb : b < t 0 3) : WT (ut (ut (ut (ut t 8 (t 0 6) x) 9 (t 0 6) a) 10 (t 0 6) b) 0 6 (t 0 6 + 1)) := by
  have w := h.1
  refine ⟨⟨w.1, w.2.1, w.2.2.1, w.2.2.2.1, w.2.2.2.2.1, w.2.2.2.2.2.1, hc, w.2.2.2.2.2.2.2.1, w.2.2.2.2.2.2.2.2⟩, h.2.1, h.2.2.1, h.2.2.2.1, fun g hg => ?_, h.2.2.2.2.2.1, h.2.2.2.2.2.2⟩
  have hg : g < t 0 6 + 1 := hg
  show 1 ≤ (if 8 = 8 ∧ g = t 0 6 then x else t 8 g) ∧ (if 8 = 8 ∧ g = t 0 6 then x else t 8 g) ≤ 150 ∧ (if 9 = 9 ∧ g = t 0 6 then a else t 9 g) < t 0 3 ∧ (if 10 = 10 ∧ g = t 0 6 then b else t 10 g) < t 0 3
  by_cases q : g = t 0 6
  · rw [if_pos ⟨rfl, q⟩, if_pos ⟨rfl, q⟩, if_pos ⟨rfl, q⟩]; exact ⟨h1, h2, ha, hb⟩
  · rw [if_neg (fun z => q z.2), if_neg (fun z => q z.2), if_neg (fun z => q z.2)]; exact h.2.2.2.2.1 g (by omega)
theorem LL.good {x a b : Nat} (h : LL t) (hab : b ≠ a) : LL (ut (ut (ut (ut t 8 (t 0 6) x) 9 (t 0 6) a) 10 (t 0 6) b) 0 6 (t 0 6 + 1)) := by
  refine ⟨h.1, h.2.1, h.2.2.1, h.2.2.2.1, fun g hg => ?_⟩
  have hg : g < t 0 6 + 1 := hg
  show (if 9 = 9 ∧ g = t 0 6 then a else t 9 g) ≠ (if 10 = 10 ∧ g = t 0 6 then b else t 10 g)
  by_cases q : g = t 0 6
  · rw [if_pos ⟨rfl, q⟩, if_pos ⟨rfl, q⟩]; exact fun z => hab z.symm
  · rw [if_neg (fun z => q z.2), if_neg (fun z => q z.2)]; exact h.2.2.2.2 g (by omega)
theorem WT.visit {v a x : Nat} (h : WT t) (hc : t 0 7 < 8) (h1 : v < t 0 5) (h2 : a < t 0 3) (h3 : x ≤ 23) : WT (ut (ut (ut (ut t 11 (t 0 7) v) 12 (t 0 7) a) 13 (t 0 7) x) 0 7 (t 0 7 + 1)) := by
  have w := h.1
  refine ⟨⟨w.1, w.2.1, w.2.2.1, w.2.2.2.1, w.2.2.2.2.1, w.2.2.2.2.2.1, w.2.2.2.2.2.2.1, hc, w.2.2.2.2.2.2.2.2⟩, h.2.1, h.2.2.1, h.2.2.2.1, h.2.2.2.2.1, fun g hg => ?_, h.2.2.2.2.2.2⟩
  have hg : g < t 0 7 + 1 := hg
  show (if 11 = 11 ∧ g = t 0 7 then v else t 11 g) < t 0 5 ∧ (if 12 = 12 ∧ g = t 0 7 then a else t 12 g) < t 0 3 ∧ (if 13 = 13 ∧ g = t 0 7 then x else t 13 g) < 24
  by_cases q : g = t 0 7
  · rw [if_pos ⟨rfl, q⟩, if_pos ⟨rfl, q⟩, if_pos ⟨rfl, q⟩]; exact ⟨h1, h2, by omega⟩
  · rw [if_neg (fun z => q z.2), if_neg (fun z => q z.2), if_neg (fun z => q z.2)]; exact h.2.2.2.2.2.1 g (by omega)
theorem WT.print {v a x : Nat} (h : WT t) (hc : t 0 8 < 5) (h1 : v < t 0 3) (h2 : a < 16) (h3 : x ≤ 20) : WT (ut (ut (ut (ut t 14 (t 0 8) v) 15 (t 0 8) a) 16 (t 0 8) x) 0 8 (t 0 8 + 1)) := by
  have w := h.1
  refine ⟨⟨w.1, w.2.1, w.2.2.1, w.2.2.2.1, w.2.2.2.2.1, w.2.2.2.2.2.1, w.2.2.2.2.2.2.1, w.2.2.2.2.2.2.2.1, hc⟩, h.2.1, h.2.2.1, h.2.2.2.1, h.2.2.2.2.1, h.2.2.2.2.2.1, fun g hg => ?_⟩
  have hg : g < t 0 8 + 1 := hg
  show (if 14 = 14 ∧ g = t 0 8 then v else t 14 g) < t 0 3 ∧ (if 15 = 15 ∧ g = t 0 8 then a else t 15 g) < 16 ∧ (if 16 = 16 ∧ g = t 0 8 then x else t 16 g) ≤ 20
  by_cases q : g = t 0 8
  · rw [if_pos ⟨rfl, q⟩, if_pos ⟨rfl, q⟩, if_pos ⟨rfl, q⟩]; exact ⟨h1, h2, h3⟩
  · rw [if_neg (fun z => q z.2), if_neg (fun z => q z.2), if_neg (fun z => q z.2)]; exact h.2.2.2.2.2.2 g (by omega)
theorem NI.ad {x : Int64} {s k : Nat} {t' : TW} (h : NI N t) (h17 : N.1 < 17) (hs : s = 1 ∨ s = 3 ∨ s = 4) (h1 : s = 1 → k < t' 0 3) (h3 : s = 3 → k < t' 0 5) (e3 : t 0 3 ≤ t' 0 3) (e5 : t 0 5 ≤ t' 0 5) (es : t' 0 3 + t' 0 5 + t' 0 6 = t 0 3 + t 0 5 + t 0 6 + 1) : NI (adN N x s k) t' := by
  refine ⟨h17, ?_, fun j hj => ?_⟩
  · show N.1 + 1 = _; rw [h.2.1]; omega
  · have hj : j < N.1 + 1 := hj
    show ((if j = N.1 then s else N.2.2.1 j) = 1 → (if j = N.1 then k else N.2.2.2 j) < t' 0 3) ∧ ((if j = N.1 then s else N.2.2.1 j) = 3 → (if j = N.1 then k else N.2.2.2 j) < t' 0 5) ∧ ((if j = N.1 then s else N.2.2.1 j) = 1 ∨ (if j = N.1 then s else N.2.2.1 j) = 3 ∨ (if j = N.1 then s else N.2.2.1 j) = 4)
    by_cases q : j = N.1
    · rw [if_pos q, if_pos q]; exact ⟨h1, h3, hs⟩
    · rw [if_neg q, if_neg q]
      have y := h.2.2 j (by omega)
      exact ⟨fun z => by have := y.1 z; omega, fun z => by have := y.2.1 z; omega, y.2.2⟩
theorem NI.same {t' : TW} (h : NI N t) (e3 : t' 0 3 = t 0 3) (e5 : t' 0 5 = t 0 5) (e6 : t' 0 6 = t 0 6) : NI N t' := by
  unfold NI; rw [e3, e5, e6]; exact h
/-- what holds between two lines -/
def WI (s : RS) : Prop := NI s.2.1 s.2.2 ∧ WT s.2.2 ∧ LL s.2.2
theorem li_inv (I : WI s) (h : liA B n s = .inr s') : WI s' ∧ 0 < s'.2.2 0 2 := by
  obtain ⟨p, N, t⟩ := s
  obtain ⟨hN, hW, hL⟩ := I
  have hN : NI N t := hN
  have hW : WT t := hW
  have hL : LL t := hL
  have w := hW.1
  have hJ := hN.nj
  unfold liA at h
  dsimp only at h
  by_cases e7 : lsN B n p = 7
  · rw [if_pos e7] at h; exact absurd h (by simp)
  rw [if_neg e7] at h
  by_cases e0 : lsN B n p = 0
  · rw [if_pos e0] at h
    by_cases ht : 0 < t 0 2
    · rw [if_pos ht] at h; exact absurd h (by simp)
    rw [if_neg ht] at h
    obtain ⟨p2, -, h⟩ := eb_inr h
    obtain ⟨a, ha, h⟩ := eb_inr h
    obtain ⟨p4, -, h⟩ := eb_inr h
    obtain ⟨b, hb, h⟩ := eb_inr h
    obtain ⟨p6, -, h⟩ := eb_inr h
    obtain ⟨c, hc, h⟩ := eb_inr h
    injection h with h
    subst h
    have ha := pN_r ha
    have hb := pN_r hb
    have hc := pN_r hc
    exact ⟨⟨hN, hW.town ha.2 hb.2 hc.2, hL.town ha.1 hb.1 hc.1⟩, Nat.lt_of_lt_of_le (by decide) hc.1⟩
  rw [if_neg e0] at h
  by_cases ht : ¬ 0 < t 0 2
  · rw [if_pos ht] at h; exact absurd h (by simp)
  have ht : 0 < t 0 2 := Decidable.of_not_not ht
  rw [if_neg (fun q => q ht)] at h
  by_cases e1 : lsN B n p = 1
  · rw [if_pos e1] at h
    by_cases hc : ¬ t 0 3 < 6
    · rw [if_neg hc] at h; exact absurd h (by simp)
    have hc : t 0 3 < 6 := Decidable.of_not_not hc
    rw [if_pos hc] at h
    obtain ⟨a, ha, h⟩ := eb_inr h
    obtain ⟨p3, -, h⟩ := eb_inr h
    obtain ⟨b, hb, h⟩ := eb_inr h
    injection h with h
    subst h
    have ha := nN_r ha
    have hb := pN_r hb
    refine ⟨⟨?_, hW.house hc hb.1 hb.2, hL.house⟩, ht⟩
    show NI a.2 _
    rw [ha.1]
    exact hN.ad ha.2.1 (Or.inl rfl) (fun _ => Nat.lt_succ_self _) (fun q => absurd q (by decide)) (Nat.le_succ _) (Nat.le_refl _) (show t 0 3 + 1 + t 0 5 + t 0 6 = t 0 3 + t 0 5 + t 0 6 + 1 by omega)
  rw [if_neg e1] at h
  by_cases e2 : lsN B n p = 2
  · rw [if_pos e2] at h
    by_cases hc : ¬ t 0 4 < 9
    · rw [if_neg hc] at h; exact absurd h (by simp)
    have hc : t 0 4 < 9 := Decidable.of_not_not hc
    rw [if_pos hc] at h
    obtain ⟨a, ha, h⟩ := eb_inr h
    obtain ⟨b, hb, h⟩ := eb_inr h
    dsimp only at h
    by_cases hq : b = a ∨ 0 < t 2 (6 * a + b)
    · rw [if_pos hq] at h; exact absurd h (by simp)
    rw [if_neg hq] at h
    obtain ⟨p4, -, h⟩ := eb_inr h
    obtain ⟨c, hx, h⟩ := eb_inr h
    injection h with h
    subst h
    exact ⟨⟨hN, hW.lane hc (pN_r hx).2, hL.lane ((fN_lt hJ ha).1 rfl) ((fN_lt hJ hb).1 rfl) w.2.2.2.1 (fun z => hq (Or.inl z))⟩, ht⟩
  rw [if_neg e2] at h
  by_cases e3 : lsN B n p = 3
  · rw [if_pos e3] at h
    by_cases hc : ¬ t 0 5 < 6
    · rw [if_neg hc] at h; exact absurd h (by simp)
    have hc : t 0 5 < 6 := Decidable.of_not_not hc
    rw [if_pos hc] at h
    obtain ⟨a, ha, h⟩ := eb_inr h
    obtain ⟨k, hk, h⟩ := eb_inr h
    obtain ⟨p4, -, h⟩ := eb_inr h
    obtain ⟨hh, hhh, h⟩ := eb_inr h
    obtain ⟨p5, -, h⟩ := eb_inr h
    obtain ⟨x, hx, h⟩ := eb_inr h
    obtain ⟨p7, -, h⟩ := eb_inr h
    obtain ⟨u, -, h⟩ := eb_inr h
    obtain ⟨p9, -, h⟩ := eb_inr h
    obtain ⟨l, -, h⟩ := eb_inr h
    injection h with h
    subst h
    have ha := nN_r ha
    have hx := pN_r hx
    have hJ2 : NJ a.2 (t 0 3) (t 0 5 + 1) := by rw [ha.1]; exact hJ.ad (by decide) (fun q => absurd q (by decide)) (fun _ => Nat.lt_succ_self _) (Nat.le_refl _) (Nat.le_succ _)
    refine ⟨⟨?_, hW.person hc (pK_r hk) ((fN_lt hJ2 hhh).1 rfl) hx.1 hx.2, hL.person⟩, ht⟩
    show NI a.2 _
    rw [ha.1]
    exact hN.ad ha.2.1 (Or.inr (Or.inl rfl)) (fun q => absurd q (by decide)) (fun _ => Nat.lt_succ_self _) (Nat.le_refl _) (Nat.le_succ _) (show t 0 3 + (t 0 5 + 1) + t 0 6 = t 0 3 + t 0 5 + t 0 6 + 1 by omega)
  rw [if_neg e3] at h
  by_cases e4 : lsN B n p = 4
  · rw [if_pos e4] at h
    by_cases hc : ¬ t 0 6 < 5
    · rw [if_neg hc] at h; exact absurd h (by simp)
    have hc : t 0 6 < 5 := Decidable.of_not_not hc
    rw [if_pos hc] at h
    obtain ⟨a, ha, h⟩ := eb_inr h
    obtain ⟨p3, -, h⟩ := eb_inr h
    obtain ⟨x, hx, h⟩ := eb_inr h
    obtain ⟨p5, -, h⟩ := eb_inr h
    obtain ⟨f, hf, h⟩ := eb_inr h
    obtain ⟨p6, -, h⟩ := eb_inr h
    obtain ⟨g, hg, h⟩ := eb_inr h
    dsimp only at h
    by_cases hq : g = f
    · rw [if_pos hq] at h; exact absurd h (by simp)
    rw [if_neg hq] at h
    injection h with h
    subst h
    have ha := nN_r ha
    have hx := pN_r hx
    have hJ2 : NJ a.2 (t 0 3) (t 0 5) := by rw [ha.1]; exact hJ.ad (by decide) (fun q => absurd q (by decide)) (fun q => absurd q (by decide)) (Nat.le_refl _) (Nat.le_refl _)
    refine ⟨⟨?_, hW.good hc hx.1 hx.2 ((fN_lt hJ2 hf).1 rfl) ((fN_lt hJ2 hg).1 rfl), hL.good hq⟩, ht⟩
    show NI a.2 _
    rw [ha.1]
    exact hN.ad ha.2.1 (Or.inr (Or.inr rfl)) (fun q => absurd q (by decide)) (fun q => absurd q (by decide)) (Nat.le_refl _) (Nat.le_refl _) (show t 0 3 + t 0 5 + (t 0 6 + 1) = t 0 3 + t 0 5 + t 0 6 + 1 by omega)
  rw [if_neg e4] at h
  by_cases e5 : lsN B n p = 5
  · rw [if_pos e5] at h
    by_cases hc : ¬ t 0 7 < 8
    · rw [if_neg hc] at h; exact absurd h (by simp)
    have hc : t 0 7 < 8 := Decidable.of_not_not hc
    rw [if_pos hc] at h
    obtain ⟨v, hv, h⟩ := eb_inr h
    obtain ⟨a, ha, h⟩ := eb_inr h
    obtain ⟨p4, -, h⟩ := eb_inr h
    obtain ⟨x, hx, h⟩ := eb_inr h
    injection h with h
    subst h
    exact ⟨⟨hN, hW.visit hc ((fN_lt hJ hv).2 rfl) ((fN_lt hJ ha).1 rfl) (pN_r hx).2, hL⟩, ht⟩
  rw [if_neg e5] at h
  by_cases hc : ¬ t 0 8 < 5
  · rw [if_neg hc] at h; exact absurd h (by simp)
  have hc : t 0 8 < 5 := Decidable.of_not_not hc
  rw [if_pos hc] at h
  obtain ⟨v, hv, h⟩ := eb_inr h
  obtain ⟨a, ha, h⟩ := eb_inr h
  obtain ⟨p4, -, h⟩ := eb_inr h
  obtain ⟨x, hx, h⟩ := eb_inr h
  injection h with h
  subst h
  exact ⟨⟨hN, hW.print hc ((fN_lt hJ hv).1 rfl) (pL_r ha) (pN_r hx).2, hL⟩, ht⟩
theorem rd_inv : ∀ k (s : RS), WI s → ∀ s', rdA B n k s = .inr s' → WI s' ∧ LT s'.2.2
  | 0, s, _, s', h => absurd h (by simp [rdA])
  | k + 1, s, I, s', h => by
    rw [rdA] at h
    obtain ⟨s1, h1, h⟩ := eb_inr h
    obtain ⟨I1, t1⟩ := li_inv I h1
    by_cases h0 : tS B n s1.1 = 0
    · rw [if_pos h0] at h
      by_cases hz : s1.2.2 0 3 = 0 ∨ s1.2.2 0 5 = 0
      · rw [if_pos hz] at h; exact absurd h (by simp)
      · rw [if_neg hz] at h
        injection h with h
        subst h
        exact ⟨I1, I1.2.2.lt t1 (fun q => hz (Or.inl q)) (fun q => hz (Or.inr q))⟩
    · rw [if_neg h0] at h
      by_cases h3 : tS B n s1.1 = 3
      · rw [if_neg (fun q => q h3)] at h
        exact rd_inv k (tE B n s1.1, s1.2) I1 s' h
      · rw [if_pos h3] at h; exact absurd h (by simp)
theorem WI00 : WI (0, n00, t00) := by
  refine ⟨⟨by decide, rfl, fun k hk => absurd hk (Nat.not_lt_zero _)⟩, ⟨?_, fun h hh => absurd hh (Nat.not_lt_zero _), fun i => Nat.zero_le _, fun h hh => absurd hh (Nat.not_lt_zero _), fun h hh => absurd hh (Nat.not_lt_zero _), fun h hh => absurd hh (Nat.not_lt_zero _), fun h hh => absurd hh (Nat.not_lt_zero _)⟩, fun h => absurd h (Nat.not_lt_zero _), fun _ _ _ _ => rfl, fun _ _ => rfl, fun _ _ _ _ _ => rfl, fun h hh => absurd hh (Nat.not_lt_zero _)⟩
  refine ⟨?_, ?_, ?_, ?_, ?_, ?_, ?_, ?_, ?_⟩ <;> exact Nat.zero_le _
end INV
section C6f
variable {G : GG} {post : PT} {mi : MI} {ml : ML} {mr : MR} {dom : List Nat} {B : Nat → Nat} {n p T : Nat} {N : NS} {t : TW}
theorem liA_7 (h : lsN B n p = 7) : liA B n (p, N, t) = .inl (1, tA B n p) := by unfold liA; simp [h]
theorem liA_0t (h : lsN B n p = 0) (ht : 0 < t 0 2) : liA B n (p, N, t) = .inl (3, tA B n p) := by unfold liA; simp [h, ht]
theorem liA_0 (h : lsN B n p = 0) (ht : ¬ 0 < t 0 2) : liA B n (p, N, t) = liT B n (p, N, t) := by unfold liA; rw [if_neg (show ¬ lsN B n p = 7 by omega), if_pos (show lsN B n p = 0 from h), if_neg ht]
theorem liA_n (h7 : ¬ lsN B n p = 7) (h0 : ¬ lsN B n p = 0) (ht : ¬ 0 < t 0 2) : liA B n (p, N, t) = .inl (6, tA B n p) := by unfold liA; rw [if_neg (show ¬ lsN B n p = 7 from h7), if_neg (show ¬ lsN B n p = 0 from h0), if_pos ht]
theorem liA_1 (h : lsN B n p = 1) (ht : 0 < t 0 2) (hc : t 0 3 < 6) : liA B n (p, N, t) = liH B n (p, N, t) := by unfold liA; rw [if_neg (show ¬ lsN B n p = 7 by omega), if_neg (show ¬ lsN B n p = 0 by omega), if_neg (show ¬ ¬ 0 < t 0 2 from fun q => q ht), if_pos (show lsN B n p = 1 from h), if_pos (show t 0 3 < 6 from hc)]
theorem liA_1m (h : lsN B n p = 1) (ht : 0 < t 0 2) (hc : ¬ t 0 3 < 6) : liA B n (p, N, t) = .inl (5, tA B n p) := by unfold liA; rw [if_neg (show ¬ lsN B n p = 7 by omega), if_neg (show ¬ lsN B n p = 0 by omega), if_neg (show ¬ ¬ 0 < t 0 2 from fun q => q ht), if_pos (show lsN B n p = 1 from h), if_neg (show ¬ t 0 3 < 6 from hc)]
theorem liA_2 (h : lsN B n p = 2) (ht : 0 < t 0 2) (hc : t 0 4 < 9) : liA B n (p, N, t) = liL B n (p, N, t) := by unfold liA; rw [if_neg (show ¬ lsN B n p = 7 by omega), if_neg (show ¬ lsN B n p = 0 by omega), if_neg (show ¬ ¬ 0 < t 0 2 from fun q => q ht), if_neg (show ¬ lsN B n p = 1 by omega), if_pos (show lsN B n p = 2 from h), if_pos (show t 0 4 < 9 from hc)]
theorem liA_2m (h : lsN B n p = 2) (ht : 0 < t 0 2) (hc : ¬ t 0 4 < 9) : liA B n (p, N, t) = .inl (5, tA B n p) := by unfold liA; rw [if_neg (show ¬ lsN B n p = 7 by omega), if_neg (show ¬ lsN B n p = 0 by omega), if_neg (show ¬ ¬ 0 < t 0 2 from fun q => q ht), if_neg (show ¬ lsN B n p = 1 by omega), if_pos (show lsN B n p = 2 from h), if_neg (show ¬ t 0 4 < 9 from hc)]
theorem liA_3 (h : lsN B n p = 3) (ht : 0 < t 0 2) (hc : t 0 5 < 6) : liA B n (p, N, t) = liP B n (p, N, t) := by unfold liA; rw [if_neg (show ¬ lsN B n p = 7 by omega), if_neg (show ¬ lsN B n p = 0 by omega), if_neg (show ¬ ¬ 0 < t 0 2 from fun q => q ht), if_neg (show ¬ lsN B n p = 1 by omega), if_neg (show ¬ lsN B n p = 2 by omega), if_pos (show lsN B n p = 3 from h), if_pos (show t 0 5 < 6 from hc)]
theorem liA_3m (h : lsN B n p = 3) (ht : 0 < t 0 2) (hc : ¬ t 0 5 < 6) : liA B n (p, N, t) = .inl (5, tA B n p) := by unfold liA; rw [if_neg (show ¬ lsN B n p = 7 by omega), if_neg (show ¬ lsN B n p = 0 by omega), if_neg (show ¬ ¬ 0 < t 0 2 from fun q => q ht), if_neg (show ¬ lsN B n p = 1 by omega), if_neg (show ¬ lsN B n p = 2 by omega), if_pos (show lsN B n p = 3 from h), if_neg (show ¬ t 0 5 < 6 from hc)]
theorem liA_4 (h : lsN B n p = 4) (ht : 0 < t 0 2) (hc : t 0 6 < 5) : liA B n (p, N, t) = liG B n (p, N, t) := by unfold liA; rw [if_neg (show ¬ lsN B n p = 7 by omega), if_neg (show ¬ lsN B n p = 0 by omega), if_neg (show ¬ ¬ 0 < t 0 2 from fun q => q ht), if_neg (show ¬ lsN B n p = 1 by omega), if_neg (show ¬ lsN B n p = 2 by omega), if_neg (show ¬ lsN B n p = 3 by omega), if_pos (show lsN B n p = 4 from h), if_pos (show t 0 6 < 5 from hc)]
theorem liA_4m (h : lsN B n p = 4) (ht : 0 < t 0 2) (hc : ¬ t 0 6 < 5) : liA B n (p, N, t) = .inl (5, tA B n p) := by unfold liA; rw [if_neg (show ¬ lsN B n p = 7 by omega), if_neg (show ¬ lsN B n p = 0 by omega), if_neg (show ¬ ¬ 0 < t 0 2 from fun q => q ht), if_neg (show ¬ lsN B n p = 1 by omega), if_neg (show ¬ lsN B n p = 2 by omega), if_neg (show ¬ lsN B n p = 3 by omega), if_pos (show lsN B n p = 4 from h), if_neg (show ¬ t 0 6 < 5 from hc)]
theorem liA_5 (h : lsN B n p = 5) (ht : 0 < t 0 2) (hc : t 0 7 < 8) : liA B n (p, N, t) = liV B n (p, N, t) := by unfold liA; rw [if_neg (show ¬ lsN B n p = 7 by omega), if_neg (show ¬ lsN B n p = 0 by omega), if_neg (show ¬ ¬ 0 < t 0 2 from fun q => q ht), if_neg (show ¬ lsN B n p = 1 by omega), if_neg (show ¬ lsN B n p = 2 by omega), if_neg (show ¬ lsN B n p = 3 by omega), if_neg (show ¬ lsN B n p = 4 by omega), if_pos (show lsN B n p = 5 from h), if_pos (show t 0 7 < 8 from hc)]
theorem liA_5m (h : lsN B n p = 5) (ht : 0 < t 0 2) (hc : ¬ t 0 7 < 8) : liA B n (p, N, t) = .inl (5, tA B n p) := by unfold liA; rw [if_neg (show ¬ lsN B n p = 7 by omega), if_neg (show ¬ lsN B n p = 0 by omega), if_neg (show ¬ ¬ 0 < t 0 2 from fun q => q ht), if_neg (show ¬ lsN B n p = 1 by omega), if_neg (show ¬ lsN B n p = 2 by omega), if_neg (show ¬ lsN B n p = 3 by omega), if_neg (show ¬ lsN B n p = 4 by omega), if_pos (show lsN B n p = 5 from h), if_neg (show ¬ t 0 7 < 8 from hc)]
theorem liA_6 (h : lsN B n p = 6) (ht : 0 < t 0 2) (hc : t 0 8 < 5) : liA B n (p, N, t) = liK B n (p, N, t) := by unfold liA; rw [if_neg (show ¬ lsN B n p = 7 by omega), if_neg (show ¬ lsN B n p = 0 by omega), if_neg (show ¬ ¬ 0 < t 0 2 from fun q => q ht), if_neg (show ¬ lsN B n p = 1 by omega), if_neg (show ¬ lsN B n p = 2 by omega), if_neg (show ¬ lsN B n p = 3 by omega), if_neg (show ¬ lsN B n p = 4 by omega), if_neg (show ¬ lsN B n p = 5 by omega), if_pos (show t 0 8 < 5 from hc)]
theorem liA_6m (h : lsN B n p = 6) (ht : 0 < t 0 2) (hc : ¬ t 0 8 < 5) : liA B n (p, N, t) = .inl (5, tA B n p) := by unfold liA; rw [if_neg (show ¬ lsN B n p = 7 by omega), if_neg (show ¬ lsN B n p = 0 by omega), if_neg (show ¬ ¬ 0 < t 0 2 from fun q => q ht), if_neg (show ¬ lsN B n p = 1 by omega), if_neg (show ¬ lsN B n p = 2 by omega), if_neg (show ¬ lsN B n p = 3 by omega), if_neg (show ¬ lsN B n p = 4 by omega), if_neg (show ¬ lsN B n p = 5 by omega), if_neg (show ¬ t 0 8 < 5 from hc)]
theorem c_readsLine (hT : TT T) (hB : RB mi ml mr B n) (hD : RD mi ml B n p) (hN : RNm mi ml N) (hI : NI N t) (hW : WT t) (hP : RP mi T t) (hE : hEL post mi ml mr dom T (liA B n (p, N, t))) (hO : hOL post mi ml mr dom B n T (liA B n (p, N, t))) : CT G 10 0 0 yX6_readsLine cX6_readsLine 3 (some .boolean) [.ref 2, .ref T] mi ml mr dom post := by
  have hX := hB.1
  have hw := hW.1
  have hge := hT.ge
  have hl := rq_le (fun k => !(decide (tS B n p = 1) && decide (tH B n p = kc k))) 7 0 (by decide)
  have hl : lsN B n p ≤ 7 := hl
  refine enter 1 (by decide) rfl rfl (fun X => ?_)
  refine j_aload_n dX6_readsLine_0 rfl rfl ?_
  refine cV6_134 (d1 := 1) rfl dX6_readsLine_1 (by decide) (Nat.le_of_ble_eq_true rfl) ?_
  refine c_lineSort hB hD ?_
  refine j_istore_n (lv2 := [_, _, _]) dX6_readsLine_4 rfl (by decide) rfl rfl ?_
  refine j_iload_n dX6_readsLine_5 rfl rfl ?_
  refine j_iconst (v := -1) dX6_readsLine_6 (by decide) ?_
  refine j_icmp_ne (tgt := 16) dX6_readsLine_7 (by decide) (fun h7 => ?_) (fun h7 => ?_)
  · have hlt : lsN B n p < 7 := by
      by_cases q : lsN B n p < 7
      · exact q
      · rw [if_neg q] at h7; exact absurd rfl h7
    rw [if_pos hlt]
    refine j_iload_n dX6_readsLine_16 rfl rfl ?_
    refine j_if_ne (tgt := 41) dX6_readsLine_17 (by decide) (fun h17 => ?_) (fun h17 => ?_)
    · have hl0 : ¬ lsN B n p = 0 := fun q => h17 (by rw [q]; rfl)
      refine j_aload_n dX6_readsLine_41 rfl rfl ?_
      refine gI6_137 (kT0 hT) dX6_readsLine_42 ?_
      rw [hP.1]
      refine j_if_ne (tgt := 55) dX6_readsLine_45 (by decide) (fun h45 => ?_) (fun h45 => ?_)
      · have ht : 0 < t 0 2 := by
          by_cases q : 0 < t 0 2
          · exact q
          · rw [if_neg q] at h45; exact absurd rfl h45
        have h6 : lsN B n p = 1 ∨ lsN B n p = 2 ∨ lsN B n p = 3 ∨ lsN B n p = 4 ∨ lsN B n p = 5 ∨ lsN B n p = 6 := by omega
        rcases h6 with h6 | h6 | h6 | h6 | h6 | h6
        · rw [h6]
          refine j_iload_n dX6_readsLine_55 rfl rfl ?_
          refine j_tableIn (tgt := 92) dX6_readsLine_56 (by decide) (by decide) (by rfl) (by decide) ?_
          refine j_aload_n dX6_readsLine_92 rfl rfl ?_
          refine gI6_101 (kT0 hT) dX6_readsLine_93 ?_
          rw [hP.houses]
          refine j_bipush (v := 6) dX6_readsLine_96 (by decide) ?_
          refine j_icmp_ge (tgt := 109) dX6_readsLine_98 (by decide) (fun h98 => ?_) (fun h98 => ?_)
          · have hc : ¬ t 0 3 < 6 := by rw [show (6 : Int32) = nI 6 from rfl, nI_leI (by decide) (by omega)] at h98; omega
            have hz := liA_1m (N := N) h6 ht hc
            refine j_aload_n dX6_readsLine_109 rfl rfl ?_
            refine j_iconst (v := 5) dX6_readsLine_110 (by decide) ?_
            refine cV6_97 (d1 := 1) rfl dX6_readsLine_111 (by decide) (Nat.le_of_ble_eq_true rfl) ?_
            refine c_fails (x := 5) hD (fun mi1 ml1 f g0 g1 => ?_)
            refine j_zret rfl (by decide) dX6_readsLine_114 ?_
            exact hE _ hz mi1 ml1 (f.ft T) g0 g1
          · have hc : t 0 3 < 6 := by rw [show (6 : Int32) = nI 6 from rfl, nI_leI (by decide) (by omega)] at h98; omega
            refine j_aload_n dX6_readsLine_101 rfl rfl ?_
            refine j_aload_n dX6_readsLine_102 rfl rfl ?_
            refine cV6_144 (d1 := 9) rfl dX6_readsLine_103 (by decide) (Nat.le_of_ble_eq_true rfl) ?_
            refine c_readsHouse hT hB hD hN hI hW hP hc (fun e he mi1 ml1 f g0 g1 => ?_) (fun s he mi1 ml1 f d nm r => ?_)
            · have hz := (liA_1 h6 ht hc).trans he
              refine j_goto (tgt := 114) dX6_readsLine_106 (by decide) ?_
              refine j_zret rfl (by decide) dX6_readsLine_114 ?_
              exact hE e hz mi1 ml1 (by first | exact f | exact f.ft T) g0 g1
            · have hz := (liA_1 h6 ht hc).trans he
              refine j_goto (tgt := 114) dX6_readsLine_106 (by decide) ?_
              refine j_zret rfl (by decide) dX6_readsLine_114 ?_
              exact hO s hz mi1 ml1 f d nm r
        · rw [h6]
          refine j_iload_n dX6_readsLine_55 rfl rfl ?_
          refine j_tableIn (tgt := 115) dX6_readsLine_56 (by decide) (by decide) (by rfl) (by decide) ?_
          refine j_aload_n dX6_readsLine_115 rfl rfl ?_
          refine gR6_147 (kT0 hT) dX6_readsLine_116 (xT_lanes hX hT) ?_
          refine gI6_151 (kT2 hT) dX6_readsLine_119 ?_
          rw [hP.lanes]
          refine j_bipush (v := 9) dX6_readsLine_122 (by decide) ?_
          refine j_icmp_ge (tgt := 135) dX6_readsLine_124 (by decide) (fun h124 => ?_) (fun h124 => ?_)
          · have hc : ¬ t 0 4 < 9 := by rw [show (9 : Int32) = nI 9 from rfl, nI_leI (by decide) (by omega)] at h124; omega
            have hz := liA_2m (N := N) h6 ht hc
            refine j_aload_n dX6_readsLine_135 rfl rfl ?_
            refine j_iconst (v := 5) dX6_readsLine_136 (by decide) ?_
            refine cV6_97 (d1 := 1) rfl dX6_readsLine_137 (by decide) (Nat.le_of_ble_eq_true rfl) ?_
            refine c_fails (x := 5) hD (fun mi1 ml1 f g0 g1 => ?_)
            refine j_zret rfl (by decide) dX6_readsLine_140 ?_
            exact hE _ hz mi1 ml1 (f.ft T) g0 g1
          · have hc : t 0 4 < 9 := by rw [show (9 : Int32) = nI 9 from rfl, nI_leI (by decide) (by omega)] at h124; omega
            refine j_aload_n dX6_readsLine_127 rfl rfl ?_
            refine j_aload_n dX6_readsLine_128 rfl rfl ?_
            refine cV6_156 (d1 := 9) rfl dX6_readsLine_129 (by decide) (Nat.le_of_ble_eq_true rfl) ?_
            refine c_readsLane hT hB hD hN hI hW hP  (fun e he mi1 ml1 f g0 g1 => ?_) (fun s he mi1 ml1 f d nm r => ?_)
            · have hz := (liA_2 h6 ht hc).trans he
              refine j_goto (tgt := 140) dX6_readsLine_132 (by decide) ?_
              refine j_zret rfl (by decide) dX6_readsLine_140 ?_
              exact hE e hz mi1 ml1 (by first | exact f | exact f.ft T) g0 g1
            · have hz := (liA_2 h6 ht hc).trans he
              refine j_goto (tgt := 140) dX6_readsLine_132 (by decide) ?_
              refine j_zret rfl (by decide) dX6_readsLine_140 ?_
              exact hO s hz mi1 ml1 f d nm r
        · rw [h6]
          refine j_iload_n dX6_readsLine_55 rfl rfl ?_
          refine j_tableIn (tgt := 141) dX6_readsLine_56 (by decide) (by decide) (by rfl) (by decide) ?_
          refine j_aload_n dX6_readsLine_141 rfl rfl ?_
          refine gI6_104 (kT0 hT) dX6_readsLine_142 ?_
          rw [hP.people]
          refine j_bipush (v := 6) dX6_readsLine_145 (by decide) ?_
          refine j_icmp_ge (tgt := 158) dX6_readsLine_147 (by decide) (fun h147 => ?_) (fun h147 => ?_)
          · have hc : ¬ t 0 5 < 6 := by rw [show (6 : Int32) = nI 6 from rfl, nI_leI (by decide) (by omega)] at h147; omega
            have hz := liA_3m (N := N) h6 ht hc
            refine j_aload_n dX6_readsLine_158 rfl rfl ?_
            refine j_iconst (v := 5) dX6_readsLine_159 (by decide) ?_
            refine cV6_97 (d1 := 1) rfl dX6_readsLine_160 (by decide) (Nat.le_of_ble_eq_true rfl) ?_
            refine c_fails (x := 5) hD (fun mi1 ml1 f g0 g1 => ?_)
            refine j_zret rfl (by decide) dX6_readsLine_163 ?_
            exact hE _ hz mi1 ml1 (f.ft T) g0 g1
          · have hc : t 0 5 < 6 := by rw [show (6 : Int32) = nI 6 from rfl, nI_leI (by decide) (by omega)] at h147; omega
            refine j_aload_n dX6_readsLine_150 rfl rfl ?_
            refine j_aload_n dX6_readsLine_151 rfl rfl ?_
            refine cV6_159 (d1 := 9) rfl dX6_readsLine_152 (by decide) (Nat.le_of_ble_eq_true rfl) ?_
            refine c_readsPerson hT hB hD hN hI hW hP hc (fun e he mi1 ml1 f g0 g1 => ?_) (fun s he mi1 ml1 f d nm r => ?_)
            · have hz := (liA_3 h6 ht hc).trans he
              refine j_goto (tgt := 163) dX6_readsLine_155 (by decide) ?_
              refine j_zret rfl (by decide) dX6_readsLine_163 ?_
              exact hE e hz mi1 ml1 (by first | exact f | exact f.ft T) g0 g1
            · have hz := (liA_3 h6 ht hc).trans he
              refine j_goto (tgt := 163) dX6_readsLine_155 (by decide) ?_
              refine j_zret rfl (by decide) dX6_readsLine_163 ?_
              exact hO s hz mi1 ml1 f d nm r
        · rw [h6]
          refine j_iload_n dX6_readsLine_55 rfl rfl ?_
          refine j_tableIn (tgt := 164) dX6_readsLine_56 (by decide) (by decide) (by rfl) (by decide) ?_
          refine j_aload_n dX6_readsLine_164 rfl rfl ?_
          refine gI6_162 (kT0 hT) dX6_readsLine_165 ?_
          rw [hP.goods]
          refine j_iconst (v := 5) dX6_readsLine_168 (by decide) ?_
          refine j_icmp_ge (tgt := 180) dX6_readsLine_169 (by decide) (fun h169 => ?_) (fun h169 => ?_)
          · have hc : ¬ t 0 6 < 5 := by rw [show (5 : Int32) = nI 5 from rfl, nI_leI (by decide) (by omega)] at h169; omega
            have hz := liA_4m (N := N) h6 ht hc
            refine j_aload_n dX6_readsLine_180 rfl rfl ?_
            refine j_iconst (v := 5) dX6_readsLine_181 (by decide) ?_
            refine cV6_97 (d1 := 1) rfl dX6_readsLine_182 (by decide) (Nat.le_of_ble_eq_true rfl) ?_
            refine c_fails (x := 5) hD (fun mi1 ml1 f g0 g1 => ?_)
            refine j_zret rfl (by decide) dX6_readsLine_185 ?_
            exact hE _ hz mi1 ml1 (f.ft T) g0 g1
          · have hc : t 0 6 < 5 := by rw [show (5 : Int32) = nI 5 from rfl, nI_leI (by decide) (by omega)] at h169; omega
            refine j_aload_n dX6_readsLine_172 rfl rfl ?_
            refine j_aload_n dX6_readsLine_173 rfl rfl ?_
            refine cV6_165 (d1 := 9) rfl dX6_readsLine_174 (by decide) (Nat.le_of_ble_eq_true rfl) ?_
            refine c_readsGood hT hB hD hN hI hW hP hc (fun e he mi1 ml1 f g0 g1 => ?_) (fun s he mi1 ml1 f d nm r => ?_)
            · have hz := (liA_4 h6 ht hc).trans he
              refine j_goto (tgt := 185) dX6_readsLine_177 (by decide) ?_
              refine j_zret rfl (by decide) dX6_readsLine_185 ?_
              exact hE e hz mi1 ml1 (by first | exact f | exact f.ft T) g0 g1
            · have hz := (liA_4 h6 ht hc).trans he
              refine j_goto (tgt := 185) dX6_readsLine_177 (by decide) ?_
              refine j_zret rfl (by decide) dX6_readsLine_185 ?_
              exact hO s hz mi1 ml1 f d nm r
        · rw [h6]
          refine j_iload_n dX6_readsLine_55 rfl rfl ?_
          refine j_tableIn (tgt := 186) dX6_readsLine_56 (by decide) (by decide) (by rfl) (by decide) ?_
          refine j_aload_n dX6_readsLine_186 rfl rfl ?_
          refine gI6_168 (kT0 hT) dX6_readsLine_187 ?_
          rw [hP.visits]
          refine j_bipush (v := 8) dX6_readsLine_190 (by decide) ?_
          refine j_icmp_ge (tgt := 203) dX6_readsLine_192 (by decide) (fun h192 => ?_) (fun h192 => ?_)
          · have hc : ¬ t 0 7 < 8 := by rw [show (8 : Int32) = nI 8 from rfl, nI_leI (by decide) (by omega)] at h192; omega
            have hz := liA_5m (N := N) h6 ht hc
            refine j_aload_n dX6_readsLine_203 rfl rfl ?_
            refine j_iconst (v := 5) dX6_readsLine_204 (by decide) ?_
            refine cV6_97 (d1 := 1) rfl dX6_readsLine_205 (by decide) (Nat.le_of_ble_eq_true rfl) ?_
            refine c_fails (x := 5) hD (fun mi1 ml1 f g0 g1 => ?_)
            refine j_zret rfl (by decide) dX6_readsLine_208 ?_
            exact hE _ hz mi1 ml1 (f.ft T) g0 g1
          · have hc : t 0 7 < 8 := by rw [show (8 : Int32) = nI 8 from rfl, nI_leI (by decide) (by omega)] at h192; omega
            refine j_aload_n dX6_readsLine_195 rfl rfl ?_
            refine j_aload_n dX6_readsLine_196 rfl rfl ?_
            refine cV6_171 (d1 := 9) rfl dX6_readsLine_197 (by decide) (Nat.le_of_ble_eq_true rfl) ?_
            refine c_readsVisit hT hB hD hN hI hW hP hc (fun e he mi1 ml1 f g0 g1 => ?_) (fun s he mi1 ml1 f d nm r => ?_)
            · have hz := (liA_5 h6 ht hc).trans he
              refine j_goto (tgt := 208) dX6_readsLine_200 (by decide) ?_
              refine j_zret rfl (by decide) dX6_readsLine_208 ?_
              exact hE e hz mi1 ml1 (by first | exact f | exact f.ft T) g0 g1
            · have hz := (liA_5 h6 ht hc).trans he
              refine j_goto (tgt := 208) dX6_readsLine_200 (by decide) ?_
              refine j_zret rfl (by decide) dX6_readsLine_208 ?_
              exact hO s hz mi1 ml1 f d nm r
        · rw [h6]
          refine j_iload_n dX6_readsLine_55 rfl rfl ?_
          refine j_tableOut (tgt := 209) dX6_readsLine_56 (by decide) (by decide) ?_
          refine j_aload_n dX6_readsLine_209 rfl rfl ?_
          refine gI6_174 (kT0 hT) dX6_readsLine_210 ?_
          rw [hP.prints]
          refine j_iconst (v := 5) dX6_readsLine_213 (by decide) ?_
          refine j_icmp_ge (tgt := 225) dX6_readsLine_214 (by decide) (fun h214 => ?_) (fun h214 => ?_)
          · have hc : ¬ t 0 8 < 5 := by rw [show (5 : Int32) = nI 5 from rfl, nI_leI (by decide) (by omega)] at h214; omega
            have hz := liA_6m (N := N) h6 ht hc
            refine j_aload_n dX6_readsLine_225 rfl rfl ?_
            refine j_iconst (v := 5) dX6_readsLine_226 (by decide) ?_
            refine cV6_97 (d1 := 1) rfl dX6_readsLine_227 (by decide) (Nat.le_of_ble_eq_true rfl) ?_
            refine c_fails (x := 5) hD (fun mi1 ml1 f g0 g1 => ?_)
            refine j_zret rfl (by decide) dX6_readsLine_230 ?_
            exact hE _ hz mi1 ml1 (f.ft T) g0 g1
          · have hc : t 0 8 < 5 := by rw [show (5 : Int32) = nI 5 from rfl, nI_leI (by decide) (by omega)] at h214; omega
            refine j_aload_n dX6_readsLine_217 rfl rfl ?_
            refine j_aload_n dX6_readsLine_218 rfl rfl ?_
            refine cV6_177 (d1 := 9) rfl dX6_readsLine_219 (by decide) (Nat.le_of_ble_eq_true rfl) ?_
            refine c_readsPrint hT hB hD hN hI hW hP hc (fun e he mi1 ml1 f g0 g1 => ?_) (fun s he mi1 ml1 f d nm r => ?_)
            · have hz := (liA_6 h6 ht hc).trans he
              refine j_goto (tgt := 230) dX6_readsLine_222 (by decide) ?_
              refine j_zret rfl (by decide) dX6_readsLine_230 ?_
              exact hE e hz mi1 ml1 (by first | exact f | exact f.ft T) g0 g1
            · have hz := (liA_6 h6 ht hc).trans he
              refine j_goto (tgt := 230) dX6_readsLine_222 (by decide) ?_
              refine j_zret rfl (by decide) dX6_readsLine_230 ?_
              exact hO s hz mi1 ml1 f d nm r
      · have ht : ¬ 0 < t 0 2 := fun q => by
          rw [if_pos q] at h45; exact absurd h45 (by decide)
        have hz := liA_n (N := N) (show ¬ lsN B n p = 7 by omega) hl0 ht
        refine j_aload_n dX6_readsLine_48 rfl rfl ?_
        refine j_bipush (v := 6) dX6_readsLine_49 (by decide) ?_
        refine cV6_97 (d1 := 1) rfl dX6_readsLine_51 (by decide) (Nat.le_of_ble_eq_true rfl) ?_
        refine c_fails (x := 6) hD (fun mi1 ml1 f g0 g1 => ?_)
        refine j_zret rfl (by decide) dX6_readsLine_54 ?_
        exact hE _ hz mi1 ml1 (f.ft T) g0 g1
    · have hl0 : lsN B n p = 0 := by rw [show (0 : Int32) = nI 0 from rfl, nI_eq (by omega) (by decide)] at h17; exact h17
      refine j_aload_n dX6_readsLine_20 rfl rfl ?_
      refine gI6_137 (kT0 hT) dX6_readsLine_21 ?_
      rw [hP.1]
      refine j_if_eq (tgt := 35) dX6_readsLine_24 (by decide) (fun h24 => ?_) (fun h24 => ?_)
      · have ht : ¬ 0 < t 0 2 := fun q => by
          rw [if_pos q] at h24; exact absurd h24 (by decide)
        refine j_aload_n dX6_readsLine_35 rfl rfl ?_
        refine j_aload_n dX6_readsLine_36 rfl rfl ?_
        refine cV6_141 (d1 := 9) rfl dX6_readsLine_37 (by decide) (Nat.le_of_ble_eq_true rfl) ?_
        refine c_readsTown hT hB hD hN hI hW hP  (fun e he mi1 ml1 f g0 g1 => ?_) (fun s he mi1 ml1 f d nm r => ?_)
        · have hz := (liA_0 hl0 ht).trans he
          refine j_zret rfl (by decide) dX6_readsLine_40 ?_
          exact hE e hz mi1 ml1 (by first | exact f | exact f.ft T) g0 g1
        · have hz := (liA_0 hl0 ht).trans he
          refine j_zret rfl (by decide) dX6_readsLine_40 ?_
          exact hO s hz mi1 ml1 f d nm r
      · have ht : 0 < t 0 2 := by
          by_cases q : 0 < t 0 2
          · exact q
          · rw [if_neg q] at h24; exact absurd rfl h24
        have hz := liA_0t (N := N) hl0 ht
        refine j_aload_n dX6_readsLine_27 rfl rfl ?_
        refine j_iconst (v := 3) dX6_readsLine_28 (by decide) ?_
        refine cV6_97 (d1 := 1) rfl dX6_readsLine_29 (by decide) (Nat.le_of_ble_eq_true rfl) ?_
        refine c_fails (x := 3) hD (fun mi1 ml1 f g0 g1 => ?_)
        refine j_goto (tgt := 40) dX6_readsLine_32 (by decide) ?_
        refine j_zret rfl (by decide) dX6_readsLine_40 ?_
        exact hE _ hz mi1 ml1 (f.ft T) g0 g1
  · have hl7 : lsN B n p = 7 := by
      by_cases q : lsN B n p < 7
      · rw [if_pos q] at h7; exact absurd h7 (m1_ne (by omega))
      · omega
    have hz := liA_7 (N := N) (t := t) hl7
    refine j_aload_n dX6_readsLine_10 rfl rfl ?_
    refine j_iconst (v := 1) dX6_readsLine_11 (by decide) ?_
    refine cV6_97 (d1 := 1) rfl dX6_readsLine_12 (by decide) (Nat.le_of_ble_eq_true rfl) ?_
    refine c_fails (x := 1) hD (fun mi1 ml1 f g0 g1 => ?_)
    refine j_zret rfl (by decide) dX6_readsLine_15 ?_
    exact hE _ hz mi1 ml1 (f.ft T) g0 g1
theorem c_endsWell (hT : TT T) (hD : RD mi ml B n p) (hW : WT t) (hP : RP mi T t) (hE : (t 0 3 = 0 ∨ t 0 5 = 0) → hEr post mi ml mr dom (6, tA B n p)) (hO : ¬ (t 0 3 = 0 ∨ t 0 5 = 0) → post (some (.int 1)) mi ml mr dom) : CT G 2 0 0 yX6_endsWell cX6_endsWell 2 (some .boolean) [.ref 2, .ref T] mi ml mr dom post := by
  have hw := hW.1
  refine enter 0 (by decide) rfl rfl (fun X => ?_)
  refine j_aload_n dX6_endsWell_0 rfl rfl ?_
  refine gI6_101 (kT0 hT) dX6_endsWell_1 ?_
  rw [hP.houses]
  refine j_if_eq (tgt := 14) dX6_endsWell_4 (by decide) (fun h4 => ?_) (fun h4 => ?_)
  · refine j_aload_n dX6_endsWell_14 rfl rfl ?_
    refine j_bipush (v := 6) dX6_endsWell_15 (by decide) ?_
    refine cV6_97 (d1 := 1) rfl dX6_endsWell_17 (by decide) (Nat.le_of_ble_eq_true rfl) ?_
    refine c_fails (x := 6) hD (fun mi1 ml1 f g0 g1 => ?_)
    refine j_zret rfl (by decide) dX6_endsWell_20 ?_
    refine hE ?_ mi1 ml1 f g0 g1
    first
      | (rw [show (0 : Int32) = nI 0 from rfl, nI_eq (by omega) (by decide)] at h11; exact Or.inr h11)
      | (rw [show (0 : Int32) = nI 0 from rfl, nI_eq (by omega) (by decide)] at h4; exact Or.inl h4)
  · refine j_aload_n dX6_endsWell_7 rfl rfl ?_
    refine gI6_104 (kT0 hT) dX6_endsWell_8 ?_
    rw [hP.people]
    refine j_if_ne (tgt := 21) dX6_endsWell_11 (by decide) (fun h11 => ?_) (fun h11 => ?_)
    · refine j_iconst (v := 1) dX6_endsWell_21 (by decide) ?_
      refine j_zret rfl (by decide) dX6_endsWell_22 ?_
      refine hO (fun q => ?_)
      rcases q with q | q
      · exact h4 (by rw [q]; rfl)
      · exact h11 (by rw [q]; rfl)
    · refine j_aload_n dX6_endsWell_14 rfl rfl ?_
      refine j_bipush (v := 6) dX6_endsWell_15 (by decide) ?_
      refine cV6_97 (d1 := 1) rfl dX6_endsWell_17 (by decide) (Nat.le_of_ble_eq_true rfl) ?_
      refine c_fails (x := 6) hD (fun mi1 ml1 f g0 g1 => ?_)
      refine j_zret rfl (by decide) dX6_endsWell_20 ?_
      refine hE ?_ mi1 ml1 f g0 g1
      first
        | (rw [show (0 : Int32) = nI 0 from rfl, nI_eq (by omega) (by decide)] at h11; exact Or.inr h11)
        | (rw [show (0 : Int32) = nI 0 from rfl, nI_eq (by omega) (by decide)] at h4; exact Or.inl h4)
end C6f
