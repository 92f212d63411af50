/-! PURE: whose prints those are, class and reference -/
def usd (t : TW) (row : Nat → Nat) (k p : Nat) : Nat → Bool
  | 0 => true
  | j + 1 => usd t row k p j && !(decide (row j = p) && decide (t 16 j = t 16 k))
def prOk (t : TW) (row : Nat → Nat) (k p : Nat) : Bool := sut t p k && usd t row k p k
abbrev SF : Type := Nat × (Nat → Nat)
def adR (t : TW) (row : Nat → Nat) (S : SF) : SF := (S.1 + 1, fu (fun j c => upN c (6 * j + row j) (c (6 * j + row j) + 1)) (t 0 8) S.2)
def fr {σ : Type} (F : Nat → σ → σ) : Nat → Nat → σ → σ
  | 0, _, s => s
  | d + 1, p, s => fr F d (p + 1) (F p s)
def fE (t : TW) : Nat → Nat → (Nat → Nat) → SF → SF
  | 0, _, row, S => adR t row S
  | n + 1, k, row, S => fr (fun p S => if prOk t row k p then fE t n (k + 1) (upN row k p) S else S) (t 0 5) 0 S
section FIT
variable {t : TW}
theorem fitL {Mid : Nat → (Nat → Nat) → Nat → SF → Prop} {X : SF → Prop} (cg : ∀ k row row' p S, (∀ j, j < k → row j = row' j) → Mid k row p S → Mid k row' p S) (r1z : ∀ row S, X S → Mid 0 row (t 0 5) S) (r1s : ∀ k row S, k + 1 < t 0 8 → Mid k row (row k + 1) S → Mid (k + 1) row (t 0 5) S) (r2 : ∀ k row p S, k < t 0 8 → p < t 0 5 → prOk t row k p = false → Mid k row (p + 1) S → Mid k row p S) (r3 : ∀ k row p S, k + 1 < t 0 8 → p < t 0 5 → prOk t row k p = true → Mid (k + 1) (upN row k p) 0 S → Mid k row p S) (r4 : ∀ k row p S, k + 1 = t 0 8 → p < t 0 5 → prOk t row k p = true → Mid k row (p + 1) (adR t (upN row k p) S) → Mid k row p S) :
    ∀ n k, k + n + 1 = t 0 8 → ∀ d row p S, p + d = t 0 5 → (∀ F, F = (fun p S => if prOk t row k p then fE t n (k + 1) (upN row k p) S else S) → (k = 0 → X (fr F d p S)) ∧ ∀ k', k = k' + 1 → Mid k' row (row k' + 1) (fr F d p S)) → Mid k row p S := by
  intro n
  induction n with
  | zero =>
    intro k hk d
    induction d with
    | zero =>
      intro row p S hp h
      have q := h _ rfl
      rw [show p = t 0 5 by omega]
      cases k with
      | zero => exact r1z row S (q.1 rfl)
      | succ k => exact r1s k row S (by omega) (q.2 k rfl)
    | succ d ihd =>
      intro row p S hp h
      cases c : prOk t row k p
      · refine r2 k row p S (by omega) (by omega) c (ihd row (p + 1) S (by omega) (fun F hF => ?_))
        have := h F hF
        rw [fr, show F p S = S by rw [hF]; exact if_neg (by rw [c]; decide)] at this
        exact this
      · refine r4 k row p S (by omega) (by omega) c (ihd row (p + 1) _ (by omega) (fun F hF => ?_))
        have := h F hF
        rw [fr, show F p S = adR t (upN row k p) S by rw [hF]; exact if_pos c] at this
        exact this
  | succ n ih =>
    intro k hk d
    induction d with
    | zero =>
      intro row p S hp h
      have q := h _ rfl
      rw [show p = t 0 5 by omega]
      cases k with
      | zero => exact r1z row S (q.1 rfl)
      | succ k => exact r1s k row S (by omega) (q.2 k rfl)
    | succ d ihd =>
      intro row p S hp h
      cases c : prOk t row k p
      · refine r2 k row p S (by omega) (by omega) c (ihd row (p + 1) S (by omega) (fun F hF => ?_))
        have := h F hF
        rw [fr, show F p S = S by rw [hF]; exact if_neg (by rw [c]; decide)] at this
        exact this
      · refine r3 k row p S (by omega) (by omega) c (ih (k + 1) (by omega) (t 0 5) (upN row k p) 0 S (by omega) (fun F hF => ⟨fun q => absurd q (by omega), fun k' q => ?_⟩))
        have q : k' = k := by omega
        subst q
        rw [upN_at]
        refine cg k' row (upN row k' p) (p + 1) _ (fun j hj => (upN_ne _ (by omega)).symm) (ihd row (p + 1) _ (by omega) (fun F2 hF2 => ?_))
        have := h F2 hF2
        rw [fr, show F2 p S = fr F (t 0 5) 0 S by rw [hF2, hF]; exact if_pos c] at this
        exact this
/-- sums -/
def sr (f : Nat → Nat) : Nat → Nat → Nat
  | 0, _ => 0
  | d + 1, p => f p + sr f d (p + 1)
theorem sr_end (f : Nat → Nat) : ∀ d p, sr f (d + 1) p = sr f d p + f (p + d)
  | 0, p => by show f p + 0 = 0 + f p; omega
  | d + 1, p => by
    show f p + sr f (d + 1) (p + 1) = (f p + sr f d (p + 1)) + f (p + (d + 1))
    rw [sr_end f d (p + 1), show p + 1 + d = p + (d + 1) by omega]; omega
theorem sr_sm (f : Nat → Nat) : ∀ n, sr f n 0 = sm f n
  | 0 => rfl
  | n + 1 => by rw [sr_end, sr_sm f n, Nat.zero_add]; rfl
theorem fr_add {σ : Type} {F : Nat → σ → σ} {c : σ → Nat} {f : Nat → Nat} (h : ∀ p s, c (F p s) = c s + f p) : ∀ d p s, c (fr F d p s) = c s + sr f d p
  | 0, p, s => rfl
  | d + 1, p, s => by
    show c (fr F d (p + 1) (F p s)) = c s + (f p + sr f d (p + 1))
    rw [fr_add h d (p + 1) (F p s), h p s]; omega
theorem sm_cg {f g : Nat → Nat} : ∀ n, (∀ i, i < n → f i = g i) → sm f n = sm g n
  | 0, _ => rfl
  | n + 1, h => by
    show sm f n + f n = sm g n + g n
    rw [sm_cg n (fun i hi => h i (by omega)), h n (by omega)]
theorem sm_mul (f : Nat → Nat) (c : Nat) : ∀ n, sm (fun i => f i * c) n = sm f n * c
  | 0 => by show 0 = 0 * c; rw [Nat.zero_mul]
  | n + 1 => by
    show sm (fun i => f i * c) n + f n * c = (sm f n + f n) * c
    rw [sm_mul f c n, Nat.add_mul]
theorem sm_0 {f : Nat → Nat} : ∀ n, (∀ i, i < n → f i = 0) → sm f n = 0
  | 0, _ => rfl
  | n + 1, h => by
    show sm f n + f n = 0
    rw [sm_0 n (fun i hi => h i (by omega)), h n (by omega)]
/-- rows by weights -/
def aW (t : TW) (w : Nat → Nat → Nat) : Nat → Nat → (Nat → Nat) → Nat
  | 0, _, _ => 1
  | n + 1, k, row => sm (fun p => if prOk t row k p then w k p * aW t w n (k + 1) (upN row k p) else 0) (t 0 5)
def w1 : Nat → Nat → Nat := fun _ _ => 1
def wj (j q : Nat) : Nat → Nat → Nat := fun k p => if k = j then (if p = q then 1 else 0) else 1
theorem fE_1 : ∀ n k row S, (fE t n k row S).1 = S.1 + aW t w1 n k row
  | 0, k, row, S => rfl
  | n + 1, k, row, S => by
    rw [fE, aW, ← sr_sm]
    refine fr_add (c := fun S : SF => S.1) (fun p s => ?_) (t 0 5) 0 S
    show (if prOk t row k p then fE t n (k + 1) (upN row k p) s else s).1 = _
    split
    · rw [fE_1 n (k + 1) (upN row k p) s]; show _ = _ + 1 * _; rw [Nat.one_mul]
    · rfl
theorem adR_c {row : Nat → Nat} {S : SF} {j q : Nat} (hq : q < 6) (hr : ∀ i, i < t 0 8 → row i < 6) : ∀ n, n ≤ t 0 8 → fu (fun j c => upN c (6 * j + row j) (c (6 * j + row j) + 1)) n S.2 (6 * j + q) = S.2 (6 * j + q) + if j < n ∧ row j = q then 1 else 0
  | 0, _ => by rw [if_neg (by omega)]; rfl
  | n + 1, hn => by
    show upN (fu _ n S.2) (6 * n + row n) (fu _ n S.2 (6 * n + row n) + 1) (6 * j + q) = _
    have ih := adR_c (S := S) (j := j) hq hr n (by omega)
    have h6 := hr n (by omega)
    by_cases e : 6 * j + q = 6 * n + row n
    · have e1 : j = n := by omega
      have e2 : row n = q := by omega
      rw [← e, upN_at, ih, if_neg (by omega), if_pos (by rw [e1]; exact ⟨by omega, e2⟩)]
    · rw [upN_ne _ e, ih]
      by_cases c : j < n ∧ row j = q
      · rw [if_pos c, if_pos ⟨by omega, c.2⟩]
      · rw [if_neg c, if_neg (fun y => c ⟨by
          by_cases z : j = n
          · subst z; have := y.2; omega
          · omega, y.2⟩)]
theorem fE_2 (h5 : t 0 5 ≤ 6) {j q : Nat} (hj : j < t 0 8) (hq : q < 6) : ∀ n k row S, k + n = t 0 8 → (∀ i, i < k → row i < 6) → (fE t n k row S).2 (6 * j + q) = S.2 (6 * j + q) + if j < k ∧ row j ≠ q then 0 else aW t (wj j q) n k row
  | 0, k, row, S, hk, hr => by
    show (adR t row S).2 (6 * j + q) = _
    unfold adR
    show fu _ (t 0 8) S.2 (6 * j + q) = _
    rw [adR_c hq (fun i hi => hr i (by omega)) (t 0 8) (Nat.le_refl _)]
    by_cases c : row j = q
    · rw [if_pos ⟨hj, c⟩, if_neg (fun y => y.2 c)]; rfl
    · rw [if_neg (fun y => c y.2), if_pos ⟨by omega, c⟩]
  | n + 1, k, row, S, hk, hr => by
    rw [fE]
    have key2 : ∀ d p (s : SF), p + d ≤ 6 → (fr (fun p S => if prOk t row k p then fE t n (k + 1) (upN row k p) S else S) d p s).2 (6 * j + q) = s.2 (6 * j + q) + sr (fun p => if prOk t row k p then (if j < k + 1 ∧ upN row k p j ≠ q then 0 else aW t (wj j q) n (k + 1) (upN row k p)) else 0) d p := by
      intro d
      induction d with
      | zero => intro p s _; rfl
      | succ d ih =>
        intro p s hp
        show (fr _ d (p + 1) (if prOk t row k p then fE t n (k + 1) (upN row k p) s else s)).2 (6 * j + q) = s.2 (6 * j + q) + ((if prOk t row k p then _ else 0) + sr _ d (p + 1))
        rw [ih (p + 1) _ (by omega)]
        by_cases c : prOk t row k p = true
        · rw [if_pos c, if_pos c, fE_2 h5 hj hq n (k + 1) (upN row k p) s (by omega) (fun i hi => by
            by_cases e : i = k
            · subst e; rw [upN_at]; omega
            · rw [upN_ne _ e]; exact hr i (by omega))]
          omega
        · rw [if_neg c, if_neg c]; omega
    rw [key2 (t 0 5) 0 S (by omega), sr_sm]
    congr 1
    by_cases c : j < k ∧ row j ≠ q
    · rw [if_pos c]
      refine sm_0 _ (fun p _ => ?_)
      show (if prOk t row k p then (if j < k + 1 ∧ upN row k p j ≠ q then 0 else aW t (wj j q) n (k + 1) (upN row k p)) else 0) = 0
      split
      · rw [if_pos ⟨by omega, by rw [upN_ne _ (by omega)]; exact c.2⟩]
      · rfl
    · rw [if_neg c, aW]
      refine sm_cg _ (fun p _ => ?_)
      show (if prOk t row k p then (if j < k + 1 ∧ upN row k p j ≠ q then 0 else aW t (wj j q) n (k + 1) (upN row k p)) else 0) = if prOk t row k p then wj j q k p * aW t (wj j q) n (k + 1) (upN row k p) else 0
      split
      · unfold wj
        by_cases e : k = j
        · subst e
          rw [upN_at, if_pos rfl]
          by_cases z : p = q
          · rw [if_neg (fun y => y.2 z), if_pos z, Nat.one_mul]
          · rw [if_pos ⟨by omega, z⟩, if_neg z, Nat.zero_mul]
        · rw [if_neg e, Nat.one_mul, if_neg (fun y => by
            rw [upN_ne _ (fun h => e h.symm)] at y
            exact c ⟨by omega, y.2⟩)]
      · rfl
/-- nights -/
def cW (t : TW) (w : Nat → Nat → Nat) (nt : Nat) : Nat → Nat → Nat → Nat
  | 0, _, _ => 1
  | n + 1, k, out => if t 16 k = nt then sm (fun p => if !out.testBit p && sut t p k then w k p * cW t w nt n (k + 1) (out ||| 2 ^ p) else 0) (t 0 5) else cW t w nt n (k + 1) out
def ub (t : TW) (row : Nat → Nat) (nt : Nat) : Nat → Nat
  | 0 => 0
  | k + 1 => if t 16 k = nt then ub t row nt k ||| 2 ^ row k else ub t row nt k
theorem ub_usd {row : Nat → Nat} {k p : Nat} : ∀ n, usd t row k p n = !(ub t row (t 16 k) n).testBit p
  | 0 => by show true = !(Nat.testBit 0 p); rw [Nat.zero_testBit]; rfl
  | n + 1 => by
    rw [usd, ub, ub_usd n]
    by_cases e : t 16 n = t 16 k
    · rw [if_pos e, decide_eq_true e, Nat.testBit_or, Nat.testBit_two_pow, Bool.and_true]
      cases (ub t row (t 16 k) n).testBit p <;> simp
    · rw [if_neg e, decide_eq_false e, Bool.and_false]; simp
theorem ub_cg {row row' : Nat → Nat} {nt : Nat} : ∀ n, (∀ j, j < n → row j = row' j) → ub t row nt n = ub t row' nt n
  | 0, _ => rfl
  | n + 1, h => by rw [ub, ub, ub_cg n (fun j hj => h j (by omega)), h n (by omega)]
theorem pro_cg {f g : Nat → Nat} : ∀ n, (∀ i, i < n → f i = g i) → pro f n = pro g n
  | 0, _ => rfl
  | n + 1, h => by
    show pro f n * f n = pro g n * g n
    rw [pro_cg n (fun i hi => h i (by omega)), h n (by omega)]
theorem pro_1 {f : Nat → Nat} : ∀ n, (∀ i, i < n → f i = 1) → pro f n = 1
  | 0, _ => rfl
  | n + 1, h => by
    show pro f n * f n = 1
    rw [pro_1 n (fun i hi => h i (by omega)), h n (by omega)]
theorem pro_at {f : Nat → Nat} {j : Nat} : ∀ n, j < n → pro f n = f j * pro (upN f j 1) n
  | 0, h => absurd h (Nat.not_lt_zero _)
  | n + 1, h => by
    show pro f n * f n = f j * (pro (upN f j 1) n * upN f j 1 n)
    by_cases e : j = n
    · subst e
      rw [upN_at, Nat.mul_one, pro_cg (g := upN f j 1) j (fun i hi => (upN_ne _ (by omega)).symm), Nat.mul_comm]
    · rw [upN_ne _ (fun q => e q.symm), pro_at (f := f) (j := j) n (by omega), Nat.mul_assoc]
theorem fst_t {k : Nat} : fst t k = true ↔ ∀ j, j < k → t 16 j ≠ t 16 k := by
  unfold fst; rw [List.all_eq_true]
  constructor
  · intro h j hj; exact decide_eq_true_eq.mp (h j (List.mem_range.mpr hj))
  · intro h j hj; exact decide_eq_true (h j (List.mem_range.mp hj))
/-- each night has a first print -/
theorem fst_ex (k : Nat) : ∃ j, j ≤ k ∧ t 16 j = t 16 k ∧ fst t j = true := by
  have key : ∀ n j, j ≤ n → j ≤ k → t 16 j = t 16 k → ∃ j, j ≤ k ∧ t 16 j = t 16 k ∧ fst t j = true := by
    intro n
    induction n with
    | zero =>
      intro j hj hk e
      exact ⟨j, hk, e, fst_t.mpr (fun i hi => by omega)⟩
    | succ n ih =>
      intro j hj hk e
      by_cases q : ∃ i, i < j ∧ t 16 i = t 16 j
      · obtain ⟨i, i1, i2⟩ := q
        exact ih i (by omega) (by omega) (i2.trans e)
      · exact ⟨j, hk, e, fst_t.mpr (fun i hi h => q ⟨i, hi, h⟩)⟩
  exact key k k (Nat.le_refl _) (Nat.le_refl _) rfl
theorem fst_u {i j : Nat} (hi : fst t i = true) (hj : fst t j = true) (h : t 16 i = t 16 j) : i = j := by
  rcases Nat.lt_trichotomy i j with q | q | q
  · exact absurd h ((fst_t.mp hj) i q)
  · exact q
  · exact absurd h.symm ((fst_t.mp hi) j q)
theorem aW_pro (w : Nat → Nat → Nat) : ∀ n k row, k + n = t 0 8 → aW t w n k row = pro (fun j => if fst t j then cW t w (t 16 j) n k (ub t row (t 16 j) k) else 1) (t 0 8)
  | 0, k, row, _ => (pro_1 (t 0 8) (fun i _ => by show (if fst t i then 1 else 1) = 1; split <;> rfl)).symm
  | n + 1, k, row, hk => by
    obtain ⟨j0, h1, h2, h3⟩ := fst_ex (t := t) k
    have hj0 : j0 < t 0 8 := by omega
    rw [aW]
    have e1 : ∀ p, (if prOk t row k p then w k p * aW t w n (k + 1) (upN row k p) else 0) = (if !(ub t row (t 16 k) k).testBit p && sut t p k then w k p * cW t w (t 16 k) n (k + 1) (ub t row (t 16 k) k ||| 2 ^ p) else 0) * pro (upN (fun j => if fst t j then cW t w (t 16 j) (n + 1) k (ub t row (t 16 j) k) else 1) j0 1) (t 0 8) := by
      intro p
      have ec : prOk t row k p = (!(ub t row (t 16 k) k).testBit p && sut t p k) := by unfold prOk; rw [ub_usd, Bool.and_comm]
      rw [ec]
      split
      · rw [aW_pro w n (k + 1) (upN row k p) (by omega), pro_at (t 0 8) hj0, ← Nat.mul_assoc]
        congr 1
        · show w k p * (if fst t j0 then cW t w (t 16 j0) n (k + 1) (ub t (upN row k p) (t 16 j0) (k + 1)) else 1) = _
          rw [if_pos h3, h2, ub, if_pos rfl, upN_at, ub_cg (row := upN row k p) (row' := row) k (fun j hj => upN_ne _ (by omega))]
        · refine pro_cg _ (fun i _ => ?_)
          by_cases e : i = j0
          · subst e; rw [upN_at, upN_at]
          · rw [upN_ne _ e, upN_ne _ e]
            show (if fst t i then cW t w (t 16 i) n (k + 1) (ub t (upN row k p) (t 16 i) (k + 1)) else 1) = if fst t i then cW t w (t 16 i) (n + 1) k (ub t row (t 16 i) k) else 1
            split
            · next hf =>
              have hn : ¬ t 16 k = t 16 i := fun q => e (fst_u hf h3 (by rw [h2]; exact q.symm))
              rw [ub, if_neg hn, cW, if_neg hn, ub_cg (row := upN row k p) (row' := row) k (fun j hj => upN_ne _ (by omega))]
            · rfl
      · rw [Nat.zero_mul]
    rw [sm_cg (t 0 5) (fun p _ => e1 p), sm_mul, pro_at (f := fun j => if fst t j then cW t w (t 16 j) (n + 1) k (ub t row (t 16 j) k) else 1) (t 0 8) hj0]
    congr 1
    show _ = if fst t j0 then cW t w (t 16 j0) (n + 1) k (ub t row (t 16 j0) k) else 1
    rw [if_pos h3, h2, cW, if_pos rfl]
/-- passing over prints of other nights -/
theorem cW_skip {w : Nat → Nat → Nat} {nt out : Nat} : ∀ d n k, (∀ i, k ≤ i → i < k + d → t 16 i ≠ nt) → cW t w nt (d + n) k out = cW t w nt n (k + d) out
  | 0, n, k, _ => by rw [Nat.zero_add]; rfl
  | d + 1, n, k, h => by
    rw [show d + 1 + n = (d + n) + 1 by omega, cW, if_neg (h k (Nat.le_refl _) (by omega)), cW_skip d n (k + 1) (fun i h1 h2 => h i (by omega) (by omega)), show k + 1 + d = k + (d + 1) by omega]
theorem cW_none {w : Nat → Nat → Nat} {nt out : Nat} {n k : Nat} (h : ∀ i, k ≤ i → i < k + n → t 16 i ≠ nt) : cW t w nt n k out = 1 := by
  have := cW_skip (t := t) (w := w) (out := out) n 0 k h
  rw [Nat.add_zero] at this
  rw [this]; rfl
theorem cW_w {w w' : Nat → Nat → Nat} {nt : Nat} : ∀ n k out, (∀ i p, k ≤ i → i < k + n → t 16 i = nt → w i p = w' i p) → cW t w nt n k out = cW t w' nt n k out
  | 0, _, _, _ => rfl
  | n + 1, k, out, h => by
    rw [cW, cW]
    by_cases e : t 16 k = nt
    · rw [if_pos e, if_pos e]
      refine sm_cg _ (fun p _ => ?_)
      show (if _ then _ else _) = if _ then _ else _
      split
      · rw [h k p (Nat.le_refl _) (by omega) e, cW_w n (k + 1) _ (fun i p h1 h2 h3 => h i p (by omega) (by omega) h3)]
      · rfl
    · rw [if_neg e, if_neg e]
      exact cW_w n (k + 1) out (fun i p h1 h2 h3 => h i p (by omega) (by omega) h3)
theorem nxt_spec {nt : Nat} : ∀ n k, t 0 8 ≤ k + n → (∀ i, k ≤ i → i < nxt t nt n k → t 16 i ≠ nt) ∧ (nxt t nt n k < t 0 8 → t 16 (nxt t nt n k) = nt)
  | 0, k, h => ⟨fun i h1 h2 => by have h2 : i < k := h2; omega, fun h2 => by have h2 : k < t 0 8 := h2; omega⟩
  | n + 1, k, h => by
    rw [nxt]
    by_cases c : k < t 0 8 ∧ t 16 k ≠ nt
    · rw [if_pos c]
      have ih := nxt_spec (nt := nt) n (k + 1) (by omega)
      refine ⟨fun i h1 h2 => ?_, ih.2⟩
      by_cases e : i = k
      · subst e; exact c.2
      · exact ih.1 i (by omega) h2
    · rw [if_neg c]
      exact ⟨fun i h1 h2 => by omega, fun h2 => Decidable.not_not.mp (fun q => c ⟨h2, q⟩)⟩
/-- the class counts the same -/
def ctr (t : TW) (nt k0 out i : Nat) : Nat := if k0 ≤ i / 6 ∧ i / 6 < t 0 8 ∧ t 16 (i / 6) = nt ∧ i % 6 < t 0 5 then cW t (wj (i / 6) (i % 6)) nt (t 0 8 - k0) k0 out else 0
theorem sm_pick {f : Nat → Nat} {q : Nat} : ∀ n, (∀ i, i ≠ q → f i = 0) → sm f n = if q < n then f q else 0
  | 0, _ => by rw [if_neg (by omega)]; rfl
  | n + 1, h => by
    show sm f n + f n = _
    rw [sm_pick n h]
    by_cases e : q = n
    · subst e; rw [if_neg (by omega), if_pos (by omega), Nat.zero_add]
    · rw [h n (fun y => e y.symm)]
      by_cases c : q < n
      · rw [if_pos c, if_pos (by omega)]; rfl
      · rw [if_neg c, if_neg (by omega)]
theorem cn_cW (h8 : t 0 8 ≤ 5) (h5 : t 0 5 ≤ 6) {nt : Nat} : ∀ n k0 out W, t 0 8 ≤ k0 + n → k0 ≤ t 0 8 → (cnW t nt n k0 out W).1 = cW t w1 nt (t 0 8 - k0) k0 out ∧ ∀ i, (cnW t nt n k0 out W).2 i = W i + ctr t nt k0 out i := by
  intro n
  induction n with
  | zero =>
    intro k0 out W h hk
    have e : k0 = t 0 8 := by omega
    subst e
    refine ⟨by rw [Nat.sub_self]; rfl, fun i => ?_⟩
    unfold ctr
    rw [if_neg (by omega)]; rfl
  | succ n ih =>
    intro k0 out W h hk
    obtain ⟨n1, n2⟩ := nxt_spec (t := t) (nt := nt) 5 k0 (by omega)
    have n3 := nxt_ge t nt 5 k0
    have n4 := nxt_le t nt 5 k0 hk
    obtain ⟨K, hK⟩ : ∃ K, K = nxt t nt 5 k0 := ⟨_, rfl⟩
    rw [← hK] at n1 n2 n3 n4
    rw [cnW, ← hK]
    by_cases c : t 0 8 ≤ K
    · rw [if_pos c]
      have e : K = t 0 8 := by omega
      refine ⟨(cW_none (fun i h1 h2 => n1 i h1 (by omega))).symm, fun i => ?_⟩
      unfold ctr
      rw [if_neg (fun y => n1 (i / 6) y.1 (by omega) y.2.2.1)]; rfl
    · rw [if_neg c]
      have hn := n2 (by omega)
      have sk : ∀ w, cW t w nt (t 0 8 - k0) k0 out = cW t w nt (t 0 8 - K) K out := fun w => by
        have := cW_skip (t := t) (w := w) (out := out) (K - k0) (t 0 8 - K) k0 (fun i h1 h2 => n1 i h1 (by omega))
        rw [show K - k0 + (t 0 8 - K) = t 0 8 - k0 by omega, show k0 + (K - k0) = K by omega] at this
        exact this
      have ex : ∀ w, cW t w nt (t 0 8 - K) K out = sm (fun p => if !out.testBit p && sut t p K then w K p * cW t w nt (t 0 8 - (K + 1)) (K + 1) (out ||| 2 ^ p) else 0) (t 0 5) := fun w => by
        rw [show t 0 8 - K = (t 0 8 - (K + 1)) + 1 by omega, cW, if_pos hn]
      -- the fold over people
      have key : ∀ m, m ≤ t 0 5 → ∀ F : Nat → Nat × (Nat → Nat) → Nat × (Nat → Nat), F = (fun p s => if out.testBit p = false ∧ sut t p K = true then (s.1 + (cnW t nt n (K + 1) (out ||| 2 ^ p) s.2).1, upN (cnW t nt n (K + 1) (out ||| 2 ^ p) s.2).2 (6 * K + p) ((cnW t nt n (K + 1) (out ||| 2 ^ p) s.2).2 (6 * K + p) + (cnW t nt n (K + 1) (out ||| 2 ^ p) s.2).1)) else s) →
          (fu F m (0, W)).1 = sm (fun p => if !out.testBit p && sut t p K then w1 K p * cW t w1 nt (t 0 8 - (K + 1)) (K + 1) (out ||| 2 ^ p) else 0) m ∧
          ∀ i, (fu F m (0, W)).2 i = W i + sm (fun p => if !out.testBit p && sut t p K then (ctr t nt (K + 1) (out ||| 2 ^ p) i + if i = 6 * K + p then cW t w1 nt (t 0 8 - (K + 1)) (K + 1) (out ||| 2 ^ p) else 0) else 0) m := by
        intro m
        induction m with
        | zero => intro _ F hF; exact ⟨rfl, fun i => rfl⟩
        | succ m ihm =>
          intro hm F hF
          obtain ⟨i1, i2⟩ := ihm (by omega) F hF
          show (F m (fu F m (0, W))).1 = sm _ m + (if !out.testBit m && sut t m K then w1 K m * cW t w1 nt (t 0 8 - (K + 1)) (K + 1) (out ||| 2 ^ m) else 0) ∧ ∀ i, (F m (fu F m (0, W))).2 i = W i + (sm _ m + (if !out.testBit m && sut t m K then (ctr t nt (K + 1) (out ||| 2 ^ m) i + if i = 6 * K + m then cW t w1 nt (t 0 8 - (K + 1)) (K + 1) (out ||| 2 ^ m) else 0) else 0))
          have eF : F m (fu F m (0, W)) = if out.testBit m = false ∧ sut t m K = true then ((fu F m (0, W)).1 + (cnW t nt n (K + 1) (out ||| 2 ^ m) (fu F m (0, W)).2).1, upN (cnW t nt n (K + 1) (out ||| 2 ^ m) (fu F m (0, W)).2).2 (6 * K + m) ((cnW t nt n (K + 1) (out ||| 2 ^ m) (fu F m (0, W)).2).2 (6 * K + m) + (cnW t nt n (K + 1) (out ||| 2 ^ m) (fu F m (0, W)).2).1)) else fu F m (0, W) := by rw [hF]
          rw [eF]
          by_cases q : out.testBit m = false ∧ sut t m K = true
          · have qb : (!out.testBit m && sut t m K) = true := by rw [q.1, q.2]; rfl
            obtain ⟨j1, j2⟩ := ih (K + 1) (out ||| 2 ^ m) (fu F m (0, W)).2 (by omega) (by omega)
            rw [if_pos q, if_pos qb]
            refine ⟨?_, fun i => ?_⟩
            · show (fu F m (0, W)).1 + _ = _
              rw [i1, j1]; show _ = _ + 1 * _; rw [Nat.one_mul]
            · rw [if_pos qb]
              show upN _ (6 * K + m) _ i = _
              by_cases e : i = 6 * K + m
              · subst e
                rw [upN_at, j2, j1, i2, if_pos rfl]; omega
              · rw [upN_ne _ e, j2, i2, if_neg e]; omega
          · have qb : ¬ (!out.testBit m && sut t m K) = true := fun y => q (by
              rw [Bool.and_eq_true] at y
              exact ⟨by cases z : out.testBit m; rfl; rw [z] at y; exact absurd y.1 (by decide), y.2⟩)
            rw [if_neg q, if_neg qb]
            exact ⟨i1, fun i => by rw [if_neg qb]; exact i2 i⟩
      obtain ⟨f1, f2⟩ := key (t 0 5) (Nat.le_refl _) _ rfl
      refine ⟨by rw [f1, sk, ex], fun i => ?_⟩
      rw [f2]
      congr 1
      -- contributions
      unfold ctr
      by_cases hi : i / 6 = K ∧ i % 6 < t 0 5
      · rw [if_pos ⟨by omega, by omega, by rw [hi.1]; exact hn, hi.2⟩, sk, ex]
        refine sm_cg _ (fun p hp => ?_)
        show (if _ then _ else _) = if _ then _ else _
        split
        · rw [if_neg (by omega), Nat.zero_add, show wj (i / 6) (i % 6) K p = if p = i % 6 then 1 else 0 from if_pos hi.1.symm]
          by_cases e : p = i % 6
          · rw [if_pos (by omega), if_pos e, Nat.one_mul]
            exact cW_w _ _ _ (fun a b h1 h2 h3 => by unfold w1 wj; rw [if_neg (by omega)])
          · rw [if_neg (by omega), if_neg e, Nat.zero_mul]
        · rfl
      · by_cases hc : k0 ≤ i / 6 ∧ i / 6 < t 0 8 ∧ t 16 (i / 6) = nt ∧ i % 6 < t 0 5
        · have hKi : K < i / 6 := by
            rcases Nat.lt_trichotomy (i / 6) K with y | y | y
            · exact absurd hc.2.2.1 (n1 _ hc.1 y)
            · exact absurd ⟨y, hc.2.2.2⟩ hi
            · exact y
          rw [if_pos hc, sk, ex]
          refine sm_cg _ (fun p hp => ?_)
          show (if _ then _ else _) = if _ then _ else _
          split
          · rw [if_pos ⟨by omega, hc.2⟩, if_neg (by omega), Nat.add_zero, show wj (i / 6) (i % 6) K p = 1 from if_neg (by omega), Nat.one_mul]
          · rfl
        · rw [if_neg hc]
          refine sm_0 _ (fun p hp => ?_)
          show (if _ then _ else _) = 0
          split
          · rw [if_neg (fun y => hc ⟨by omega, y.2⟩), if_neg (fun y => hi (by omega))]
          · rfl
end FIT
