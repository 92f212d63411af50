/-! the reference: hands -/
theorem bit_1N : ∀ i, i < 8 → nI 1 <<< (nI i &&& 31) = nI (2 ^ i) := by decide +kernel
theorem pow_64 {i : Nat} (h : i < 6) : 2 ^ i < 64 := (Nat.pow_lt_pow_right (show 1 < 2 by decide) h : 2 ^ i < 2 ^ 6)
theorem or_64 {a i : Nat} (ha : a < 64) (hi : i < 6) : a ||| 2 ^ i < 64 := Nat.or_lt_two_pow (n := 6) ha (pow_64 hi)
def hnI (t : TW) (R h f s : Nat) : Nat := if R.testBit f && decide (0 < t 2 (6 * f + h)) then s ||| 2 ^ h else s
def hnO (t : TW) (b R h s : Nat) : Nat := if decide (h < t 0 3) && decide (b ≤ t 0 2 - t 1 h) then fu (hnI t R h) (t 0 3) s else s
def hon (t : TW) (b R : Nat) : Nat := fu (hnO t b R) (t 0 3) R
def hRn (t : TW) (b pl : Nat) : Nat → Nat
  | 0 => if decide (b ≤ t 0 2 - t 1 pl) then 2 ^ pl else 0
  | n + 1 => hon t b (hRn t b pl n)
theorem hnI_lt {t : TW} {R h : Nat} (hh : h < 6) {f s : Nat} (hs : s < 64) : hnI t R h f s < 64 := by
  unfold hnI; split
  · exact or_64 hs hh
  · exact hs
theorem hnO_lt {t : TW} {b R : Nat} (h6 : t 0 3 ≤ 6) {h s : Nat} (hs : s < 64) : hnO t b R h s < 64 := by
  unfold hnO; split
  · next q =>
    rw [Bool.and_eq_true, decide_eq_true_eq] at q
    exact fu_inv (I := fun s => s < 64) (fun f s hs => hnI_lt (by omega) hs) _ hs
  · exact hs
theorem hon_lt {t : TW} {b R : Nat} (h6 : t 0 3 ≤ 6) (hs : R < 64) : hon t b R < 64 := fu_inv (I := fun s => s < 64) (fun f s hs => hnO_lt h6 hs) _ hs
theorem hRn_lt {t : TW} {b pl : Nat} (h6 : t 0 3 ≤ 6) (hp : pl < 6) : ∀ n, hRn t b pl n < 64
  | 0 => by unfold hRn; split; exact pow_64 hp; decide
  | n + 1 => hon_lt h6 (hRn_lt h6 hp n)
theorem hnI_bit {t : TW} {R h : Nat} {x : Nat} : ∀ n s, (fu (hnI t R h) n s).testBit x = true ↔ s.testBit x = true ∨ (x = h ∧ ∃ f, f < n ∧ R.testBit f = true ∧ 0 < t 2 (6 * f + h)) := by
  intro n
  induction n with
  | zero => intro s; exact ⟨Or.inl, fun h => h.elim id (fun q => absurd q.2.choose_spec.1 (Nat.not_lt_zero _))⟩
  | succ n ih =>
    intro s
    show (hnI t R h n (fu (hnI t R h) n s)).testBit x = true ↔ _
    unfold hnI
    by_cases c : R.testBit n = true ∧ 0 < t 2 (6 * n + h)
    · rw [if_pos (by rw [c.1, decide_eq_true c.2]; rfl), Nat.testBit_or, Bool.or_eq_true, show (fun f s => if (R.testBit f && decide (0 < t 2 (6 * f + h))) = true then s ||| 2 ^ h else s) = hnI t R h from rfl, ih s, Nat.testBit_two_pow, decide_eq_true_eq]
      constructor
      · rintro ((q | ⟨q, f, q1, q2⟩) | q)
        · exact Or.inl q
        · exact Or.inr ⟨q, f, by omega, q2⟩
        · exact Or.inr ⟨q.symm, n, by omega, c⟩
      · rintro (q | ⟨q, f, q1, q2⟩)
        · exact Or.inl (Or.inl q)
        · exact Or.inr q.symm
    · rw [if_neg (fun q => c (by rw [Bool.and_eq_true, decide_eq_true_eq] at q; exact q)), show (fun f s => if (R.testBit f && decide (0 < t 2 (6 * f + h))) = true then s ||| 2 ^ h else s) = hnI t R h from rfl, ih s]
      constructor
      · rintro (q | ⟨q, f, q1, q2⟩)
        · exact Or.inl q
        · exact Or.inr ⟨q, f, by omega, q2⟩
      · rintro (q | ⟨q, f, q1, q2⟩)
        · exact Or.inl q
        · by_cases e : f = n
          · subst e; exact absurd q2 c
          · exact Or.inr ⟨q, f, by omega, q2⟩
theorem hnO_bit {t : TW} {b R : Nat} {x : Nat} : ∀ n s, (fu (hnO t b R) n s).testBit x = true ↔ s.testBit x = true ∨ (x < n ∧ x < t 0 3 ∧ b ≤ t 0 2 - t 1 x ∧ ∃ f, f < t 0 3 ∧ R.testBit f = true ∧ 0 < t 2 (6 * f + x)) := by
  intro n
  induction n with
  | zero => intro s; exact ⟨Or.inl, fun h => h.elim id (fun q => absurd q.1 (Nat.not_lt_zero _))⟩
  | succ n ih =>
    intro s
    show (hnO t b R n (fu (hnO t b R) n s)).testBit x = true ↔ _
    rw [hnO]
    by_cases c : n < t 0 3 ∧ b ≤ t 0 2 - t 1 n
    · rw [if_pos (by rw [decide_eq_true c.1, decide_eq_true c.2]; rfl), hnI_bit, ih s]
      constructor
      · rintro ((q | ⟨q, q1⟩) | ⟨q, q1⟩)
        · exact Or.inl q
        · exact Or.inr ⟨by omega, q1⟩
        · subst q; exact Or.inr ⟨by omega, c.1, c.2, q1⟩
      · rintro (q | ⟨q, q1, q2, q3⟩)
        · exact Or.inl (Or.inl q)
        · by_cases e : x = n
          · exact Or.inr ⟨e, e ▸ q3⟩
          · exact Or.inl (Or.inr ⟨by omega, q1, q2, q3⟩)
    · rw [if_neg (fun q => c (by rw [Bool.and_eq_true, decide_eq_true_eq, decide_eq_true_eq] at q; exact q)), ih s]
      constructor
      · rintro (q | ⟨q, q1⟩)
        · exact Or.inl q
        · exact Or.inr ⟨by omega, q1⟩
      · rintro (q | ⟨q, q1, q2, q3⟩)
        · exact Or.inl q
        · by_cases e : x = n
          · subst e; exact absurd ⟨q1, q2⟩ c
          · exact Or.inr ⟨by omega, q1, q2, q3⟩
theorem hon_bit {t : TW} {b R : Nat} {x : Nat} : (hon t b R).testBit x = true ↔ R.testBit x = true ∨ (x < t 0 3 ∧ b ≤ t 0 2 - t 1 x ∧ ∃ f, f < t 0 3 ∧ R.testBit f = true ∧ 0 < t 2 (6 * f + x)) := by
  unfold hon; rw [hnO_bit]
  constructor
  · rintro (q | ⟨q, q1⟩)
    · exact Or.inl q
    · exact Or.inr q1
  · rintro (q | q1)
    · exact Or.inl q
    · exact Or.inr ⟨q1.1, q1⟩
section HND
variable {t : TW} {b pl : Nat}
theorem hRn_ok (hp : pl < t 0 3) : ∀ n x, (hRn t b pl n).testBit x = true → x < t 0 3 ∧ b ≤ t 0 2 - t 1 x
  | 0, x, h => by
    unfold hRn at h; split at h
    · next q =>
      rw [Nat.testBit_two_pow, decide_eq_true_eq] at h; subst h
      exact ⟨hp, decide_eq_true_eq.mp q⟩
    · simp at h
  | n + 1, x, h => by
    rw [hRn, hon_bit] at h
    rcases h with h | h
    · exact hRn_ok hp n x h
    · exact ⟨h.1, h.2.1⟩
theorem hRn_up {n x : Nat} (h : (hRn t b pl n).testBit x = true) : (hRn t b pl (n + 1)).testBit x = true := by
  rw [hRn, hon_bit]; exact Or.inl h
theorem hRn_ups {n x : Nat} (h : (hRn t b pl n).testBit x = true) : ∀ k, (hRn t b pl (n + k)).testBit x = true
  | 0 => h
  | k + 1 => hRn_up (hRn_ups h k)
theorem edg_t {x y : Nat} : edg t b x y = true ↔ 0 < t 2 (6 * x + y) ∧ b ≤ t 0 2 - t 1 x ∧ b ≤ t 0 2 - t 1 y := by
  unfold edg pasB; rw [Bool.and_eq_true, Bool.and_eq_true, decide_eq_true_eq, decide_eq_true_eq, decide_eq_true_eq]
theorem hRn_s (hp : pl < t 0 3) {n x y : Nat} (hx : (hRn t b pl n).testBit x = true) (hy : y < t 0 3) (he : edg t b x y = true) : (hRn t b pl (n + 1)).testBit y = true := by
  rw [edg_t] at he
  rw [hRn, hon_bit]; exact Or.inr ⟨hy, he.2.2, x, (hRn_ok hp n x hx).1, hx, he.1⟩
/-- steps are no dream -/
def hS (t : TW) (b pl : Nat) (f : Nat → Nat) : Prop := f pl = 0 ∧ ∀ x, x ≠ pl → f x < 1000000 → 1 ≤ f x ∧ (hRn t b pl (f x)).testBit x = true
theorem hS_s (hp : pl < t 0 3) {f : Nat → Nat} (h : hS t b pl f) {x y : Nat} (hx : x < t 0 3) (hy : y < t 0 3) : hS t b pl (hsF t b x y f) := by
  unfold hsF; split
  · next he =>
    have hez := edg_t.mp he
    refine ⟨?_, fun z hz hlt => ?_⟩
    · unfold upN; split
      · next e => rw [← e, h.1]; omega
      · exact h.1
    · unfold upN at hlt ⊢
      by_cases e : z = y
      · subst e
        rw [if_pos rfl] at hlt ⊢
        by_cases q : f z ≤ f x + 1
        · rw [Nat.min_eq_left q] at hlt ⊢; exact h.2 z hz hlt
        · rw [Nat.min_eq_right (by omega)] at hlt ⊢
          refine ⟨by omega, ?_⟩
          by_cases ex : x = pl
          · subst ex
            rw [h.1]
            refine hRn_s hp ?_ hy he
            unfold hRn; rw [if_pos (decide_eq_true hez.2.1), Nat.testBit_two_pow]; exact decide_eq_true rfl
          · exact hRn_s hp (h.2 x ex (by omega)).2 hy he
      · rw [if_neg e] at hlt ⊢; exact h.2 z hz hlt
  · exact h
theorem fu_invb {σ : Type} {F : Nat → σ → σ} {I : σ → Prop} {m : Nat} (hF : ∀ i s, i < m → I s → I (F i s)) : ∀ n, n ≤ m → ∀ {s : σ}, I s → I (fu F n s)
  | 0, _, _, h => h
  | n + 1, hn, _, h => hF n _ (by omega) (fu_invb hF n (by omega) h)
theorem hS_all (hp : pl < t 0 3) : hS t b pl (hsR t pl b) := by
  have r1 : ∀ x f, x < t 0 3 → hS t b pl f → hS t b pl (fu (fun n f => hsF t b x n f) (t 0 3) f) := fun x f hx hf =>
    fu_invb (F := fun n f => hsF t b x n f) (I := hS t b pl) (m := t 0 3) (fun y f hy hf => hS_s hp hf hx hy) (t 0 3) (Nat.le_refl _) hf
  have r2 : ∀ f, hS t b pl f → hS t b pl (fu (fun h f => fu (fun n f => hsF t b h n f) (t 0 3) f) (t 0 3) f) := fun f hf =>
    fu_invb (F := fun h f => fu (fun n f => hsF t b h n f) (t 0 3) f) (I := hS t b pl) (m := t 0 3) (fun x f hx hf => r1 x f hx hf) (t 0 3) (Nat.le_refl _) hf
  unfold hsR
  refine fu_inv (I := hS t b pl) (fun _ f hf => r2 f hf) _ ?_
  refine ⟨if_pos rfl, fun x hx hlt => ?_⟩
  have hlt : (if x = pl then 0 else 1000000) < 1000000 := hlt
  rw [if_neg hx] at hlt; omega
/-- and no step is too long -/
theorem hsF_dn {x y : Nat} (f : Nat → Nat) (z : Nat) : hsF t b x y f z ≤ f z := by
  unfold hsF; split
  · unfold upN; split
    · next e => rw [e]; omega
    · exact Nat.le_refl _
  · exact Nat.le_refl _
theorem fu_dn {F : Nat → (Nat → Nat) → Nat → Nat} (hF : ∀ i f z, F i f z ≤ f z) : ∀ n f z, fu F n f z ≤ f z
  | 0, _, _ => Nat.le_refl _
  | n + 1, f, z => Nat.le_trans (hF n _ z) (fu_dn hF n f z)
theorem fu_dnk {F : Nat → (Nat → Nat) → Nat → Nat} (hF : ∀ i f z, F i f z ≤ f z) {k : Nat} : ∀ n f z, k < n → fu F n f z ≤ F k (fu F k f) z
  | 0, _, _, h => absurd h (Nat.not_lt_zero _)
  | n + 1, f, z, h => by
    by_cases e : k = n
    · subst e; exact Nat.le_refl _
    · exact Nat.le_trans (hF n _ z) (fu_dnk hF n f z (by omega))
def hRd (t : TW) (b : Nat) (f : Nat → Nat) : Nat → Nat := fu (fun h f => fu (fun n f => hsF t b h n f) (t 0 3) f) (t 0 3) f
theorem hRd_dn (f : Nat → Nat) (z : Nat) : hRd t b f z ≤ f z := fu_dn (fun _ f z => fu_dn (fun _ f z => hsF_dn f z) _ f z) _ f z
theorem hRd_e {f : Nat → Nat} {x y : Nat} (hx : x < t 0 3) (hy : y < t 0 3) (he : edg t b x y = true) : hRd t b f y ≤ f x + 1 := by
  have d1 : ∀ i (f : Nat → Nat) z, fu (fun n f => hsF t b i n f) (t 0 3) f z ≤ f z := fun i f z => fu_dn (fun _ f z => hsF_dn f z) _ f z
  refine Nat.le_trans (fu_dnk (F := fun h f => fu (fun n f => hsF t b h n f) (t 0 3) f) d1 (t 0 3) f y hx) ?_
  refine Nat.le_trans (fu_dnk (F := fun n f => hsF t b x n f) (fun _ f z => hsF_dn f z) (t 0 3) _ y hy) ?_
  show hsF t b x y _ y ≤ _
  unfold hsF
  rw [if_pos he]
  unfold upN
  rw [if_pos rfl]
  refine Nat.le_trans (Nat.min_le_right _ _) (Nat.add_le_add_right ?_ 1)
  refine Nat.le_trans (fu_dn (F := fun n f => hsF t b x n f) (fun _ f z => hsF_dn f z) y _ x) ?_
  exact fu_dn (F := fun h f => fu (fun n f => hsF t b h n f) (t 0 3) f) d1 x f x
theorem hC_all (hp : pl < t 0 3) : ∀ k x, (hRn t b pl k).testBit x = true → fu (fun _ f => hRd t b f) k (fun i => if i = pl then 0 else 1000000) x ≤ k
  | 0, x, h => by
    unfold hRn at h; split at h
    · rw [Nat.testBit_two_pow, decide_eq_true_eq] at h; subst h
      show (if pl = pl then 0 else 1000000) ≤ 0
      rw [if_pos rfl]; exact Nat.le_refl _
    · simp at h
  | k + 1, x, h => by
    have hok := hRn_ok hp (k + 1) x h
    rw [hRn, hon_bit] at h
    rcases h with h | ⟨h1, h2, f, h3, h4, h5⟩
    · exact Nat.le_trans (hRd_dn _ x) (Nat.le_trans (hC_all hp k x h) (Nat.le_succ _))
    · have := hC_all hp k f h4
      refine Nat.le_trans (hRd_e h3 h1 (edg_t.mpr ⟨h5, (hRn_ok hp k f h4).2, h2⟩)) (by omega)
theorem pop_sub : ∀ a, a < 64 → ∀ c, c < 64 → a ||| c = c → a ≠ c → popc a < popc c := by decide +kernel
theorem pop_pw : ∀ h, h < 7 → ∀ a, a < 2 ^ h → popc a ≤ h := by decide +kernel
theorem hR_sub (n : Nat) : hRn t b pl n ||| hRn t b pl (n + 1) = hRn t b pl (n + 1) := by
  refine Nat.eq_of_testBit_eq fun x => ?_
  rw [Nat.testBit_or]
  cases q : (hRn t b pl n).testBit x
  · rfl
  · rw [hRn_up q]; rfl
theorem hR_lt2 (hp : pl < t 0 3) (n : Nat) : hRn t b pl n < 2 ^ (t 0 3) := by
  refine Nat.lt_pow_two_of_testBit _ fun i hi => ?_
  cases q : (hRn t b pl n).testBit i
  · rfl
  · have := (hRn_ok hp n i q).1; omega
theorem hR_st {m : Nat} (h : hRn t b pl (m + 1) = hRn t b pl m) : ∀ k, hRn t b pl (m + k) = hRn t b pl m
  | 0 => rfl
  | k + 1 => by
    show hon t b (hRn t b pl (m + k)) = _
    rw [hR_st h k]; exact h
theorem hR_fix (hp : pl < t 0 3) (h6 : t 0 3 ≤ 6) : ∃ m, m < t 0 3 ∧ hRn t b pl (m + 1) = hRn t b pl m := by
  by_cases hq : ∃ m, m < t 0 3 ∧ hRn t b pl (m + 1) = hRn t b pl m
  · exact hq
  · exfalso
    have key : ∀ n, n ≤ t 0 3 → n + popc (hRn t b pl 0) ≤ popc (hRn t b pl n) := by
      intro n
      induction n with
      | zero => intro _; omega
      | succ n ih =>
        intro hn
        have := ih (by omega)
        have := pop_sub _ (hRn_lt h6 (by omega) n) _ (hRn_lt h6 (by omega) (n + 1)) (hR_sub n) (fun e => hq ⟨n, by omega, e.symm⟩)
        omega
    have k1 := key (t 0 3) (Nat.le_refl _)
    have k2 := pop_pw (t 0 3) (by omega) _ (hR_lt2 (b := b) hp (t 0 3))
    by_cases hz : hRn t b pl 0 = 0
    · refine hq ⟨0, by omega, ?_⟩
      rw [hz]
      refine Nat.eq_of_testBit_eq fun x => ?_
      cases q : (hRn t b pl (0 + 1)).testBit x
      · simp
      · rw [hRn, hon_bit, hz] at q
        simp at q
    · have : 0 < popc (hRn t b pl 0) := by
        rcases Nat.eq_zero_or_pos (popc (hRn t b pl 0)) with e | e
        · exact absurd (pop_0 _ (hRn_lt h6 (by omega) 0) e) hz
        · exact e
      omega
theorem hR_early (hp : pl < t 0 3) (h6 : t 0 3 ≤ 6) {j x : Nat} (h : (hRn t b pl j).testBit x = true) : ∃ m, m < t 0 3 ∧ m ≤ j ∧ (hRn t b pl m).testBit x = true := by
  obtain ⟨m, h1, h2⟩ := hR_fix (b := b) hp h6
  by_cases q : j ≤ m
  · exact ⟨j, by omega, Nat.le_refl _, h⟩
  · refine ⟨m, h1, by omega, ?_⟩
    rw [← hR_st h2 (j - m), show m + (j - m) = j by omega]; exact h
theorem hsR_n (hp : pl < t 0 3) (h6 : t 0 3 ≤ 6) {n x : Nat} (h : (hRn t b pl n).testBit x = true) : hsR t pl b x ≤ n := by
  obtain ⟨m, h1, h2, h3⟩ := hR_early hp h6 h
  have h4 : (hRn t b pl (t 0 3)).testBit x = true := by
    have := hRn_ups h3 (t 0 3 - m)
    rw [show m + (t 0 3 - m) = t 0 3 by omega] at this; exact this
  have e1 : ∀ k, m ≤ k → fu (fun _ f => hRd t b f) k (fun i => if i = pl then 0 else 1000000) x ≤ m := by
    intro k hk
    induction k with
    | zero => have : m = 0 := by omega
              subst this; exact hC_all hp 0 x h3
    | succ k ih =>
      by_cases q : m = k + 1
      · rw [← q]; exact hC_all hp m x h3
      · exact Nat.le_trans (hRd_dn _ x) (ih (by omega))
  exact Nat.le_trans (e1 (t 0 3) (by omega)) h2
/-- what is asked -/
theorem hs_0 (hp : pl < t 0 3) : hsR t pl b pl = 0 := (hS_all hp).1
theorem hs_n (hp : pl < t 0 3) (h6 : t 0 3 ≤ 6) {n x : Nat} (hx : x ≠ pl) (hn : n ≤ 5) (h : (hRn t b pl n).testBit x = true) (hno : ∀ m, 1 ≤ m → m < n → (hRn t b pl m).testBit x = false) : hsR t pl b x = n := by
  have l1 := hsR_n hp h6 h
  have s1 := (hS_all (b := b) hp).2 x hx (by omega)
  by_cases q : hsR t pl b x < n
  · have := hno _ s1.1 q; rw [s1.2] at this; cases this
  · omega
theorem hs_no (hp : pl < t 0 3) (h6 : t 0 3 ≤ 6) {x : Nat} (hx : x ≠ pl) (hno : ∀ m, 1 ≤ m → m ≤ 5 → (hRn t b pl m).testBit x = false) : ¬ hsR t pl b x < 1000000 := by
  intro q
  have s1 := (hS_all (b := b) hp).2 x hx q
  obtain ⟨m, h1, h2, h3⟩ := hR_early hp h6 s1.2
  by_cases e : m = 0
  · subst e
    unfold hRn at h3; split at h3
    · rw [Nat.testBit_two_pow, decide_eq_true_eq] at h3; exact hx h3.symm
    · simp at h3
  · have := hno m (by omega) (by omega); rw [h3] at this; cases this
end HND
section M13h
variable {G : GG} {post : PT} {mi : MI} {ml : ML} {mr : MR} {dom : List Nat} {M : Nat} {t : TW} {v : Nat → Nat}
theorem m_handedOn {g R : Nat} (hX : XM mr) (hM : MM M) (hY : XT mr M) (hTn : mr 1000 3 = some M) (hg : GB t) (hW : WT t) (hR : RM mi M t) (hL : 60 ≤ t 0 2) (h1 : g < t 0 6) (hR6 : R < 64) (hp : post (some (.int (nI (hon t (t 8 g) R)))) mi ml mr dom) : CT G 3 0 0 yX13_handedOn cX13_handedOn 6 (some .int) [.ref 1000, .int (nI g), .int (nI R)] mi ml mr dom post := by
  have w := hW.1
  have hge := hM.ge
  refine enter 3 (by decide) rfl rfl (fun X => ?_)
  refine j_iload_n dX13_handedOn_0 rfl rfl ?_
  refine j_istore_n (lv2 := [_, _, _, _, _, _]) dX13_handedOn_1 rfl (by decide) rfl rfl ?_
  refine j_iconst (v := nI 0) dX13_handedOn_2 (by decide) ?_
  refine j_istore (lv2 := [_, _, _, _, _, _]) dX13_handedOn_3 (by decide) rfl rfl ?_
  skip
  have key : ∀ z : Option Value, J cX13_handedOn 6 yX13_handedOn.cls yX13_handedOn.name (some .int) 3 G X post 0 0 mi ml mr dom 5 [some (.ref 1000), some (.int (nI g)), some (.int (nI R)), some (.int (nI R)), some (.int (nI 0)), z] [] := by
    refine fl (σ := Nat) (n := t 0 3) (s0 := R) (I := fun s => s < 64) (F := hnO t (t 8 g) R) (H := fun h s0 => ∀ z : Option Value, J cX13_handedOn 6 yX13_handedOn.cls yX13_handedOn.name (some .int) 3 G X post 0 0 mi ml mr dom 5 [some (.ref 1000), some (.int (nI g)), some (.int (nI R)), some (.int (nI s0)), some (.int (nI h)), z] []) hR6 (fun f s hs => hnO_lt (by omega) hs) (fun h hh s0 hs0 ihh z => ?_) (fun z => ?_)
    · skip
      refine j_iload dX13_handedOn_5 rfl ?_
      refine j_aload_n dX13_handedOn_7 rfl rfl ?_
      refine gR13_335 rfl dX13_handedOn_8 hTn ?_
      refine gI13_196 (kM0 hM) dX13_handedOn_11 ?_
      rw [hR.1 3 (by decide)]
      refine j_icmp_ge (tgt := 92) dX13_handedOn_14 (by decide) (fun h14 => by exfalso; rw [nI_leI (by have := hg 0 3; omega) (by omega)] at h14; have := hg 0 3; omega) (fun h14 => ?_)
      refine j_aload_n dX13_handedOn_17 rfl rfl ?_
      refine j_iload_n dX13_handedOn_18 rfl rfl ?_
      refine j_iload dX13_handedOn_19 rfl ?_
      refine cV13_437 (d1 := 2) rfl dX13_handedOn_21 (by decide) (Nat.le_of_ble_eq_true rfl) ?_
      refine m_isPassing hX hM hY hTn hg hW hR hL (by omega) (by omega) ?_
      refine j_if_ne (tgt := 30) dX13_handedOn_24 (by decide) (fun h24 => ?_) (fun h24 => ?_)
      all_goals rw [bN_eq0] at h24
      · refine j_iconst (v := nI 0) dX13_handedOn_30 (by decide) ?_
        refine j_istore (lv2 := [_, _, _, _, _, _]) dX13_handedOn_31 (by decide) rfl rfl ?_
        refine fl (σ := Nat) (n := t 0 3) (s0 := s0) (I := fun s => s < 64) (F := hnI t R h) (H := fun f s => J cX13_handedOn 6 yX13_handedOn.cls yX13_handedOn.name (some .int) 3 G X post 0 0 mi ml mr dom 33 [some (.ref 1000), some (.int (nI g)), some (.int (nI R)), some (.int (nI s)), some (.int (nI h)), some (.int (nI f))] []) hs0 (fun f s hs => hnI_lt (by omega) hs) (fun f hf s hs ihf => ?_) ?_
        · skip
          refine j_iload dX13_handedOn_33 rfl ?_
          refine j_aload_n dX13_handedOn_35 rfl rfl ?_
          refine gR13_335 rfl dX13_handedOn_36 hTn ?_
          refine gI13_196 (kM0 hM) dX13_handedOn_39 ?_
          rw [hR.1 3 (by decide)]
          refine j_icmp_ge (tgt := 86) dX13_handedOn_42 (by decide) (fun h42 => by exfalso; rw [nI_leI (by have := hg 0 3; omega) (by omega)] at h42; have := hg 0 3; omega) (fun h42 => ?_)
          refine j_iload_n dX13_handedOn_45 rfl rfl ?_
          refine j_iload dX13_handedOn_46 rfl ?_
          refine cS13_400 (d1 := 1) dX13_handedOn_48 (by decide) (Nat.le_of_ble_eq_true rfl) ?_
          refine m_bit (by omega) (by omega) ?_
          refine j_if_eq (tgt := 80) dX13_handedOn_51 (by decide) (fun h51 => ?_) (fun h51 => ?_)
          all_goals rw [bN_eq0] at h51
          · refine j_iinc1 (lv2 := [_, _, _, _, _, _]) dX13_handedOn_80 rfl (by decide) rfl rfl ?_
            rw [nI_1]
            refine j_goto (tgt := 33) dX13_handedOn_83 (by decide) ?_
            have c1 : hnI t R h f s = s := if_neg (fun q => by rw [Bool.and_eq_true, decide_eq_true_eq] at q; first | (rw [q.1] at h51; cases h51) | omega)
            rw [c1] at ihf
            exact ihf
          · refine j_aload_n dX13_handedOn_54 rfl rfl ?_
            refine gR13_335 rfl dX13_handedOn_55 hTn ?_
            refine gR13_257 (kM0 hM) dX13_handedOn_58 (xM2 hY) ?_
            refine j_bipush (v := nI 6) dX13_handedOn_61 (by decide) ?_
            refine j_iload dX13_handedOn_63 rfl ?_
            refine j_imul dX13_handedOn_65 ?_
            rw [pk_mul]
            refine j_iload dX13_handedOn_66 rfl ?_
            refine j_iadd dX13_handedOn_68 ?_
            rw [nI_add]
            refine j_iald (kM2 hM) (inT (lM2 hM) (by show (6 * f) + h < 36; omega) (by decide)) dX13_handedOn_69 ?_
            rw [nI_clamp (by omega), rM2 hR (by show (6 * f) + h < 36; omega)]
            refine j_if_le (tgt := 80) dX13_handedOn_70 (by decide) (fun h70 => ?_) (fun h70 => ?_)
            all_goals rw [show (0 : Int32) = nI 0 from rfl, nI_leI (by have := hg 2 ((6 * f) + h); omega) (by decide)] at h70
            · refine j_iinc1 (lv2 := [_, _, _, _, _, _]) dX13_handedOn_80 rfl (by decide) rfl rfl ?_
              rw [nI_1]
              refine j_goto (tgt := 33) dX13_handedOn_83 (by decide) ?_
              have c1 : hnI t R h f s = s := if_neg (fun q => by rw [Bool.and_eq_true, decide_eq_true_eq] at q; first | (rw [q.1] at h51; cases h51) | omega)
              rw [c1] at ihf
              exact ihf
            · refine j_iload_n dX13_handedOn_73 rfl rfl ?_
              refine j_iconst (v := nI 1) dX13_handedOn_74 (by decide) ?_
              refine j_iload dX13_handedOn_75 rfl ?_
              refine j_ishl dX13_handedOn_77 ?_
              refine j_ior dX13_handedOn_78 ?_
              rw [bit_or _ (by have := hs; show s < 256; omega) _ (by show h < 8; omega)]
              refine j_istore_n (lv2 := [_, _, _, _, _, _]) dX13_handedOn_79 rfl (by decide) rfl rfl ?_
              refine j_iinc1 (lv2 := [_, _, _, _, _, _]) dX13_handedOn_80 rfl (by decide) rfl rfl ?_
              rw [nI_1]
              refine j_goto (tgt := 33) dX13_handedOn_83 (by decide) ?_
              have c1 : hnI t R h f s = s ||| 2 ^ h := if_pos (by rw [Bool.not_eq_false _ |>.mp h51, decide_eq_true (show 0 < t 2 (6 * f + h) by omega)]; rfl)
              rw [c1] at ihf
              exact ihf
        · skip
          refine j_iload dX13_handedOn_33 rfl ?_
          refine j_aload_n dX13_handedOn_35 rfl rfl ?_
          refine gR13_335 rfl dX13_handedOn_36 hTn ?_
          refine gI13_196 (kM0 hM) dX13_handedOn_39 ?_
          rw [hR.1 3 (by decide)]
          refine j_icmp_ge (tgt := 86) dX13_handedOn_42 (by decide) (fun h42 => ?_) (fun h42 => by exfalso; rw [nI_leI (by have := hg 0 3; omega) (by have := hg 0 3; omega)] at h42; have := hg 0 3; omega)
          refine j_iinc1 (lv2 := [_, _, _, _, _, _]) dX13_handedOn_86 rfl (by decide) rfl rfl ?_
          rw [nI_1]
          refine j_goto (tgt := 5) dX13_handedOn_89 (by decide) ?_
          have c1 : hnO t (t 8 g) R h s0 = fu (hnI t R h) (t 0 3) s0 := if_pos (by rw [decide_eq_true (show h < t 0 3 by omega), Bool.not_eq_false _ |>.mp h24]; rfl)
          rw [c1] at ihh
          exact ihh _
      · refine j_goto (tgt := 86) dX13_handedOn_27 (by decide) ?_
        refine j_iinc1 (lv2 := [_, _, _, _, _, _]) dX13_handedOn_86 rfl (by decide) rfl rfl ?_
        rw [nI_1]
        refine j_goto (tgt := 5) dX13_handedOn_89 (by decide) ?_
        have c1 : hnO t (t 8 g) R h s0 = s0 := if_neg (fun q => by rw [Bool.and_eq_true] at q; rw [q.2] at h24; cases h24)
        rw [c1] at ihh
        exact ihh _
    · skip
      refine j_iload dX13_handedOn_5 rfl ?_
      refine j_aload_n dX13_handedOn_7 rfl rfl ?_
      refine gR13_335 rfl dX13_handedOn_8 hTn ?_
      refine gI13_196 (kM0 hM) dX13_handedOn_11 ?_
      rw [hR.1 3 (by decide)]
      refine j_icmp_ge (tgt := 92) dX13_handedOn_14 (by decide) (fun h14 => ?_) (fun h14 => by exfalso; rw [nI_leI (by have := hg 0 3; omega) (by have := hg 0 3; omega)] at h14; have := hg 0 3; omega)
      refine j_iload_n dX13_handedOn_92 rfl rfl ?_
      refine j_iret rfl dX13_handedOn_93 ?_
      exact hp
  exact key none
theorem mx_handsB {x : Int32} (hX : XM mr) (hM : MM M) (hY : XT mr M) (hTn : mr 1000 3 = some M) (hg : GB t) (hW : WT t) (hR : RM mi M t) (hb : bad x (t 0 6)) (hp : post (some (.int (-1))) (rf mi (nI 1)) ml mr dom) : CT G 5 0 0 yX13_hands cX13_hands 4 (some .int) [.ref 1000, .int x] mi ml mr dom post := by
  have w := hW.1
  have hge := hM.ge
  refine enter 2 (by decide) rfl rfl (fun X => ?_)
  refine j_aload_n dX13_hands_0 rfl rfl ?_
  refine j_iconst (v := nI 0) dX13_hands_1 (by decide) ?_
  refine pI13_51 rfl dX13_hands_2 ?_
  obtain ⟨m1, e1⟩ : ∃ m, m = up mi 1000 0 (nI 0) := ⟨_, rfl⟩
  rw [← e1]
  have hR1 : RM m1 M t := RM_lo hM (fun n hn => by rw [e1, up_off _ _ (by omega)]) hR
  refine j_aload_n dX13_hands_5 rfl rfl ?_
  refine j_iload_n dX13_hands_6 rfl rfl ?_
  refine cV13_361 (d1 := 1) rfl dX13_hands_7 (by decide) (Nat.le_of_ble_eq_true rfl) ?_
  refine m_isGoodB hX hM hY hTn hg hW hR1 hb ?_
  refine j_if_ne (tgt := 19) dX13_hands_10 (by decide) (fun h10 => absurd (by decide) h10) (fun h10 => ?_)
  refine j_aload_n dX13_hands_13 rfl rfl ?_
  refine j_iconst (v := nI 1) dX13_hands_14 (by decide) ?_
  refine cV13_57 (d1 := 1) rfl dX13_hands_15 (by decide) (Nat.le_of_ble_eq_true rfl) ?_
  refine m_refused ?_
  refine j_iret rfl dX13_hands_18 ?_
  rw [e1]; exact hp
theorem mx_hands {g : Nat} (hX : XM mr) (hM : MM M) (hY : XT mr M) (hTn : mr 1000 3 = some M) (hg : GB t) (hW : WT t) (hR : RM mi M t) (hV : VM mi t v) (hL : 60 ≤ t 0 2) (h1 : g < t 0 6) (hp : post (some (.int (orN (hsR t (v (6 + g)) (t 8 g) (t 10 g))))) (fa mi) ml mr dom) : CT G 5 0 0 yX13_hands cX13_hands 4 (some .int) [.ref 1000, .int (nI g)] mi ml mr dom post := by
  have w := hW.1
  have hge := hM.ge
  refine enter 2 (by decide) rfl rfl (fun X => ?_)
  refine j_aload_n dX13_hands_0 rfl rfl ?_
  refine j_iconst (v := nI 0) dX13_hands_1 (by decide) ?_
  refine pI13_51 rfl dX13_hands_2 ?_
  obtain ⟨m1, e1⟩ : ∃ m, m = up mi 1000 0 (nI 0) := ⟨_, rfl⟩
  rw [← e1]
  have hR1 : RM m1 M t := RM_lo hM (fun n hn => by rw [e1, up_off _ _ (by omega)]) hR
  have hV1 : VM m1 t v := VM_off (by rw [e1, up_off _ _ (by decide)]) hV
  refine j_aload_n dX13_hands_5 rfl rfl ?_
  refine j_iload_n dX13_hands_6 rfl rfl ?_
  refine cV13_361 (d1 := 1) rfl dX13_hands_7 (by decide) (Nat.le_of_ble_eq_true rfl) ?_
  refine m_isGoodG hX hM hY hTn hg hW hR1 (by omega) ?_
  refine j_if_ne (tgt := 19) dX13_hands_10 (by decide) (fun h10 => ?_) (fun h10 => absurd h10 (by decide))
  refine j_aload_n dX13_hands_19 rfl rfl ?_
  refine j_iload_n dX13_hands_20 rfl rfl ?_
  refine cV13_432 (d1 := 1) rfl dX13_hands_21 (by decide) (Nat.le_of_ble_eq_true rfl) ?_
  refine m_mustGo hX hM hY hTn hg hW hR1 hV1 (by omega) ?_
  refine j_if_ne (tgt := 33) dX13_hands_24 (by decide) (fun h24 => ?_) (fun h24 => ?_)
  all_goals rw [bN_eq0] at h24
  · have hvg : v (6 + g) < t 0 3 := (hV.2.1 g h1).2
    have hmg : v (6 + g) ≠ t 10 g := by
      have q := Bool.not_eq_false _ |>.mp h24
      unfold mgo at q; exact decide_eq_true_eq.mp q
    have hgo := hW.2.2.2.2.1 g h1
    have key : J cX13_hands 4 yX13_hands.cls yX13_hands.name (some .int) 5 G X post 0 0 m1 ml mr dom 68 [some (.ref 1000), some (.int (nI g)), some (.int (nI (hRn t (t 8 g) (v (6 + g)) 0))), some (.int (nI (0 + 1)))] [] := by
      refine lp (n := 5) (H := fun i => J cX13_hands 4 yX13_hands.cls yX13_hands.name (some .int) 5 G X post 0 0 m1 ml mr dom 68 [some (.ref 1000), some (.int (nI g)), some (.int (nI (hRn t (t 8 g) (v (6 + g)) i))), some (.int (nI (i + 1)))] []) (Q := fun i => ∀ m, 1 ≤ m → m ≤ i → (hRn t (t 8 g) (v (6 + g)) m).testBit (t 10 g) = false) (fun hq => ?_) (fun i hi hq ih => ?_) (fun m q1 q2 => absurd q2 (by omega))
      · skip
        refine j_iload_n dX13_hands_68 rfl rfl ?_
        refine j_bipush (v := nI 6) dX13_hands_69 (by decide) ?_
        refine j_icmp_ge (tgt := 109) dX13_hands_71 (by decide) (fun h71 => ?_) (fun h71 => by exfalso; rw [nI_leI (by omega) (by omega)] at h71; omega)
        refine j_aload_n dX13_hands_109 rfl rfl ?_
        refine j_bipush (v := -2) dX13_hands_110 (by decide) ?_
        refine cV13_61 (d1 := 1) rfl dX13_hands_112 (by decide) (Nat.le_of_ble_eq_true rfl) ?_
        refine m_fair ?_
        refine j_iret rfl dX13_hands_115 ?_
        unfold orN at hp
        rw [if_neg (hs_no hvg w.2.2.2.1 (Ne.symm hmg) (fun m q1 q2 => hq m q1 (by omega)))] at hp
        rw [e1]; exact hp
      · skip
        refine j_iload_n dX13_hands_68 rfl rfl ?_
        refine j_bipush (v := nI 6) dX13_hands_69 (by decide) ?_
        refine j_icmp_ge (tgt := 109) dX13_hands_71 (by decide) (fun h71 => by exfalso; rw [nI_leI (by omega) (by omega)] at h71; omega) (fun h71 => ?_)
        refine j_aload_n dX13_hands_74 rfl rfl ?_
        refine j_iload_n dX13_hands_75 rfl rfl ?_
        refine j_iload_n dX13_hands_76 rfl rfl ?_
        refine cV13_440 (d1 := 3) rfl dX13_hands_77 (by decide) (Nat.le_of_ble_eq_true rfl) ?_
        refine m_handedOn hX hM hY hTn hg hW hR1 hL (by omega) (by have := hRn_lt (t := t) (b := t 8 g) (pl := v (6 + g)) (show t 0 3 ≤ 6 by omega) (show v (6 + g) < 6 by omega) i; show hRn t (t 8 g) (v (6 + g)) i < 64; omega) ?_
        rw [show hon t (t 8 g) (hRn t (t 8 g) (v (6 + g)) i) = hRn t (t 8 g) (v (6 + g)) (i + 1) from rfl]
        refine j_istore_n (lv2 := [_, _, _, _]) dX13_hands_80 rfl (by decide) rfl rfl ?_
        refine j_iload_n dX13_hands_81 rfl rfl ?_
        refine j_aload_n dX13_hands_82 rfl rfl ?_
        refine gR13_335 rfl dX13_hands_83 hTn ?_
        refine gR13_300 (kM0 hM) dX13_hands_86 (xM10 hY) ?_
        refine j_iload_n dX13_hands_89 rfl rfl ?_
        refine j_iald (kM10 hM) (inT (lM10 hM) (by show g < 5; omega) (by decide)) dX13_hands_90 ?_
        rw [nI_clamp (by omega), rM10 hR1 (by show g < 5; omega)]
        refine cS13_400 (d1 := 1) dX13_hands_91 (by decide) (Nat.le_of_ble_eq_true rfl) ?_
        refine m_bit (by have := hRn_lt (t := t) (b := t 8 g) (pl := v (6 + g)) (show t 0 3 ≤ 6 by omega) (show v (6 + g) < 6 by omega) (i + 1); omega) (by have := hg 10 g; omega) ?_
        refine j_if_eq (tgt := 103) dX13_hands_94 (by decide) (fun h94 => ?_) (fun h94 => ?_)
        all_goals rw [bN_eq0] at h94
        · refine j_iinc1 (lv2 := [_, _, _, _]) dX13_hands_103 rfl (by decide) rfl rfl ?_
          rw [nI_1]
          refine j_goto (tgt := 68) dX13_hands_106 (by decide) ?_
          exact ih (fun m q1 q2 => by
            by_cases q : m = i + 1
            · subst q; exact h94
            · exact hq m q1 (by omega))
        · refine j_aload_n dX13_hands_97 rfl rfl ?_
          refine j_iload_n dX13_hands_98 rfl rfl ?_
          refine cV13_61 (d1 := 1) rfl dX13_hands_99 (by decide) (Nat.le_of_ble_eq_true rfl) ?_
          refine m_fair ?_
          refine j_iret rfl dX13_hands_102 ?_
          unfold orN at hp
          rw [hs_n hvg w.2.2.2.1 (Ne.symm hmg) (show i + 1 ≤ 5 by omega) (Bool.not_eq_false _ |>.mp h94) (fun m q1 q2 => hq m q1 (by omega)), if_pos (by omega)] at hp
          rw [e1]; exact hp
    refine j_aload_n dX13_hands_33 rfl rfl ?_
    refine j_iload_n dX13_hands_34 rfl rfl ?_
    refine j_aload_n dX13_hands_35 rfl rfl ?_
    refine gR13_17 rfl dX13_hands_36 (x1002 hX) ?_
    refine j_bipush (v := nI 6) dX13_hands_39 (by decide) ?_
    refine j_iload_n dX13_hands_41 rfl rfl ?_
    refine j_iadd dX13_hands_42 ?_
    rw [nI_add]
    refine j_iald rfl (inT (show ln 1002 = 13 from rfl) (by show 6 + g < 13; omega) (by decide)) dX13_hands_43 ?_
    rw [nI_clamp (by omega), (hV1.2.1 g (by show g < t 0 6; omega)).1]
    refine cV13_437 (d1 := 2) rfl dX13_hands_44 (by decide) (Nat.le_of_ble_eq_true rfl) ?_
    refine m_isPassing hX hM hY hTn hg hW hR1 hL (by omega) (by have := (hV1.2.1 g (by show g < t 0 6; omega)).2; have := hg 0 3; omega) ?_
    refine j_if_eq (tgt := 64) dX13_hands_47 (by decide) (fun h47 => ?_) (fun h47 => ?_)
    all_goals rw [bN_eq0] at h47
    · refine j_iconst (v := nI 0) dX13_hands_64 (by decide) ?_
      refine j_istore_n (lv2 := [_, _, _, _]) dX13_hands_65 rfl (by decide) rfl rfl ?_
      refine j_iconst (v := nI 1) dX13_hands_66 (by decide) ?_
      refine j_istore_n (lv2 := [_, _, _, _]) dX13_hands_67 rfl (by decide) rfl rfl ?_
      have c1 : hRn t (t 8 g) (v (6 + g)) 0 = 0 := if_neg (by rw [h47]; decide)
      rw [show nI (0) = nI (hRn t (t 8 g) (v (6 + g)) 0) by rw [c1]]
      exact key
    · refine j_iconst (v := nI 1) dX13_hands_50 (by decide) ?_
      refine j_aload_n dX13_hands_51 rfl rfl ?_
      refine gR13_17 rfl dX13_hands_52 (x1002 hX) ?_
      refine j_bipush (v := nI 6) dX13_hands_55 (by decide) ?_
      refine j_iload_n dX13_hands_57 rfl rfl ?_
      refine j_iadd dX13_hands_58 ?_
      rw [nI_add]
      refine j_iald rfl (inT (show ln 1002 = 13 from rfl) (by show 6 + g < 13; omega) (by decide)) dX13_hands_59 ?_
      rw [nI_clamp (by omega), (hV1.2.1 g (by show g < t 0 6; omega)).1]
      refine j_ishl dX13_hands_60 ?_
      rw [bit_1N _ (by have := (hV1.2.1 g (by show g < t 0 6; omega)).2; have := hg 0 3; show v (6 + g) < 8; omega)]
      refine j_goto (tgt := 65) dX13_hands_61 (by decide) ?_
      refine j_istore_n (lv2 := [_, _, _, _]) dX13_hands_65 rfl (by decide) rfl rfl ?_
      refine j_iconst (v := nI 1) dX13_hands_66 (by decide) ?_
      refine j_istore_n (lv2 := [_, _, _, _]) dX13_hands_67 rfl (by decide) rfl rfl ?_
      have c1 : hRn t (t 8 g) (v (6 + g)) 0 = 2 ^ (v (6 + g)) := if_pos (Bool.not_eq_false _ |>.mp h47)
      rw [show nI ((2 ^ (v (6 + g)))) = nI (hRn t (t 8 g) (v (6 + g)) 0) by rw [c1]]
      exact key
  · refine j_aload_n dX13_hands_27 rfl rfl ?_
    refine j_iconst (v := nI 0) dX13_hands_28 (by decide) ?_
    refine cV13_61 (d1 := 1) rfl dX13_hands_29 (by decide) (Nat.le_of_ble_eq_true rfl) ?_
    refine m_fair ?_
    refine j_iret rfl dX13_hands_32 ?_
    have hmg : t 10 g = v (6 + g) := by
      unfold mgo at h24; exact (Decidable.not_not.mp (decide_eq_false_iff_not.mp h24)).symm
    unfold orN at hp
    rw [hmg, hs_0 (hV.2.1 g h1).2, if_pos (by decide)] at hp
    rw [e1]; exact hp
end M13h
