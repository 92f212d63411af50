/-! the text: tokens, words, the parser as a function (the class's way, which ends at the first fault) -/
/-- the first place from p on where Q does not hold, or n -/
def rqF (Q : Nat → Bool) (n : Nat) : Nat → Nat → Nat
  | 0, p => p
  | k + 1, p => if p < n ∧ Q p = true then rqF Q n k (p + 1) else p
def rq (Q : Nat → Bool) (n p : Nat) : Nat := rqF Q n (n - p) p
theorem rq_go {Q : Nat → Bool} {n p : Nat} (h1 : p < n) (h2 : Q p = true) : rq Q n p = rq Q n (p + 1) := by
  unfold rq
  rw [show n - p = (n - (p + 1)) + 1 by omega, rqF, if_pos ⟨h1, h2⟩]
theorem rq_end {Q : Nat → Bool} {n p : Nat} (h : n ≤ p) : rq Q n p = p := by
  unfold rq
  rw [show n - p = 0 by omega, rqF]
theorem rq_no {Q : Nat → Bool} {n p : Nat} (h : Q p = false) : rq Q n p = p := by
  by_cases hp : p < n
  · unfold rq
    rw [show n - p = (n - (p + 1)) + 1 by omega, rqF, if_neg (fun q => by rw [h] at q; exact absurd q.2 (by decide))]
  · exact rq_end (by omega)
theorem rq_ind {Q : Nat → Bool} {n : Nat} {H : Nat → Prop} (h0 : ∀ p, n ≤ p → H p) (h1 : ∀ p, p < n → Q p = false → H p) (h2 : ∀ p, p < n → Q p = true → H (p + 1) → H p) : ∀ p, H p := by
  have key : ∀ k p, n - p ≤ k → H p := by
    intro k
    induction k with
    | zero => intro p hp; exact h0 p (by omega)
    | succ k ih =>
      intro p hp
      by_cases hn : p < n
      · by_cases hq : Q p = true
        · exact h2 p hn hq (ih (p + 1) (by omega))
        · exact h1 p hn (by simpa using hq)
      · exact h0 p (by omega)
  intro p
  exact key (n - p) p (Nat.le_refl _)
theorem rq_ge (Q : Nat → Bool) (n : Nat) : ∀ p, p ≤ rq Q n p := by
  refine rq_ind (n := n) (Q := Q) (fun p h => by rw [rq_end h]; omega) (fun p _ h => by rw [rq_no h]; omega) (fun p h1 h2 ih => by rw [rq_go h1 h2]; omega)
theorem rq_le (Q : Nat → Bool) (n : Nat) : ∀ p, p ≤ n → rq Q n p ≤ n := by
  refine rq_ind (n := n) (Q := Q) (fun p h hp => by rw [rq_end h]; omega) (fun p _ h hp => by rw [rq_no h]; omega) (fun p h1 h2 ih hp => by rw [rq_go h1 h2]; exact ih (by omega))
theorem rq_stop (Q : Nat → Bool) (n : Nat) : ∀ p, rq Q n p < n → Q (rq Q n p) = false := by
  refine rq_ind (n := n) (Q := Q) (fun p h hp => by rw [rq_end h] at hp; omega) (fun p _ h hp => by rw [rq_no h]; exact h) (fun p h1 h2 ih hp => by rw [rq_go h1 h2] at hp ⊢; exact ih hp)
theorem rq_in (Q : Nat → Bool) (n : Nat) : ∀ p k, p ≤ k → k < rq Q n p → Q k = true ∧ k < n := by
  refine rq_ind (n := n) (Q := Q) (fun p h k h1 h2 => by rw [rq_end h] at h2; omega) (fun p _ h k h1 h2 => by rw [rq_no h] at h2; omega) (fun p h1 h2 ih k hk hk2 => ?_)
  rw [rq_go h1 h2] at hk2
  by_cases e : k = p
  · rw [e]; exact ⟨h2, h1⟩
  · exact ih k (by omega) hk2
/-- a loop that goes on while Q holds -/
theorem rq_loop {Q : Nat → Bool} {n p : Nat} {H : Nat → Prop} (step : ∀ i, p ≤ i → i < n → Q i = true → H (i + 1) → H i) (ex : H (rq Q n p)) : H p := by
  have key : ∀ q, p ≤ q → H (rq Q n q) → H q := by
    refine rq_ind (n := n) (Q := Q) (fun q h _ hq => by rwa [rq_end h] at hq) (fun q _ h _ hq => by rwa [rq_no h] at hq) (fun q h1 h2 ih hp hq => ?_)
    rw [rq_go h1 h2] at hq
    exact step q hp h1 h2 (ih (by omega) hq)
  exact key p (Nat.le_refl _) ex
theorem rq_congr {Q R : Nat → Bool} {n : Nat} : ∀ p, (∀ k, p ≤ k → k < n → Q k = R k) → rq Q n p = rq R n p := by
  refine rq_ind (n := n) (Q := Q) (fun p h _ => by rw [rq_end h, rq_end h]) (fun p h1 h hq => by rw [rq_no h, rq_no (by rw [← hq p (Nat.le_refl _) h1]; exact h)]) (fun p h1 h2 ih hq => ?_)
  rw [rq_go h1 h2, rq_go h1 (by rw [← hq p (Nat.le_refl _) h1]; exact h2)]
  exact ih (fun k hk hk2 => hq k (by omega) hk2)
/-- bytes as the machine holds them -/
def sx (b : Nat) : Int32 := (nI b).toInt8.toInt32
def isL (b : Nat) : Bool := decide (97 ≤ b) && decide (b ≤ 122)
def isG (b : Nat) : Bool := decide (48 ≤ b) && decide (b ≤ 57)
theorem sx_lt : ∀ b, b < 256 → (decide (sx b < 97)) = decide (b < 97 ∨ 128 ≤ b) ∧ decide (122 < sx b) = decide (122 < b ∧ b < 128) ∧ decide (sx b < 48) = decide (b < 48 ∨ 128 ≤ b) ∧ decide (57 < sx b) = decide (57 < b ∧ b < 128) ∧ decide (sx b = 32) = decide (b = 32) ∧ decide (sx b = 59) = decide (b = 59) ∧ sx b &&& 255 = nI b ∧ (isL b = true → sx b = nI b ∧ sx b - 97 + 1 = nI (b - 96)) ∧ (isG b = true → sx b = nI b ∧ sx b - 48 = nI (b - 48)) := by decide +kernel
/-- what letters or digits come to -/
def hv (a : Int64) (g : Nat → Int64) (p : Nat) : Nat → Int64
  | 0 => 0
  | k + 1 => a * hv a g p k + g (p + k)
def gL (B : Nat → Nat) (k : Nat) : Int64 := (sx (B k) - 97 + 1).toInt64
def gG (B : Nat → Nat) (k : Nat) : Int64 := (sx (B k) - 48).toInt64
/-- a text's number -/
def kc (i : Nat) : Int64 := hv 32 (fun k => ((strB.getD i []).getD k 0 - 97 + 1).toInt64) 0 (strL.getD i 0)
/-- the token from p on: where it begins, where it ends, its sort (0 end, 1 word, 2 whole, 3 parter, 4 none), what it holds -/
def tA (B : Nat → Nat) (n p : Nat) : Nat := rq (fun k => decide (B k = 32)) n p
def tE (B : Nat → Nat) (n p : Nat) : Nat := if n ≤ tA B n p then tA B n p else if isL (B (tA B n p)) then rq (fun k => isL (B k)) n (tA B n p) else if isG (B (tA B n p)) then rq (fun k => isG (B k)) n (tA B n p) else tA B n p + 1
def tS (B : Nat → Nat) (n p : Nat) : Nat := if n ≤ tA B n p then 0 else if isL (B (tA B n p)) then (if tE B n p - tA B n p ≤ 8 then 1 else 4) else if isG (B (tA B n p)) then (if tE B n p - tA B n p ≤ 3 then 2 else 4) else if B (tA B n p) = 59 then 3 else 4
def tH (B : Nat → Nat) (n p : Nat) : Int64 := if n ≤ tA B n p then 0 else if isL (B (tA B n p)) then hv 32 (gL B) (tA B n p) (tE B n p - tA B n p) else if isG (B (tA B n p)) then hv 10 (gG B) (tA B n p) (tE B n p - tA B n p) else 0
/-- a whole number's value -/
def dv (B : Nat → Nat) (p : Nat) : Nat → Nat
  | 0 => 0
  | k + 1 => 10 * dv B p k + (B (p + k) - 48)
def tV (B : Nat → Nat) (n p : Nat) : Nat := dv B (tA B n p) (tE B n p - tA B n p)
/-- a look, base four -/
def lk (B : Nat → Nat) (p : Nat) : Nat → Nat
  | 0 => 0
  | k + 1 => 4 * lk B p k + (B (p + k) - 97)
theorem tA_ge (B : Nat → Nat) (n p : Nat) : p ≤ tA B n p := rq_ge _ _ _
theorem tA_le (B : Nat → Nat) {n p : Nat} (h : p ≤ n) : tA B n p ≤ n := rq_le _ _ _ h
theorem tE_ge (B : Nat → Nat) (n p : Nat) : tA B n p ≤ tE B n p := by
  unfold tE
  split
  · omega
  · split
    · exact rq_ge _ _ _
    · split
      · exact rq_ge _ _ _
      · omega
theorem tE_le (B : Nat → Nat) {n p : Nat} (h : p ≤ n) : tE B n p ≤ n := by
  have := tA_le B h
  unfold tE
  split
  · omega
  · split
    · exact rq_le _ _ _ (by omega)
    · split
      · exact rq_le _ _ _ (by omega)
      · omega
theorem tE_lt (B : Nat → Nat) {n p : Nat} (h : tS B n p ≠ 0) : tA B n p < tE B n p := by
  unfold tS at h
  by_cases h1 : n ≤ tA B n p
  · rw [if_pos h1] at h; exact absurd rfl h
  · unfold tE
    rw [if_neg h1]
    by_cases h2 : isL (B (tA B n p)) = true
    · rw [if_pos h2, rq_go (Q := fun k => isL (B k)) (by omega) h2]
      have := rq_ge (fun k => isL (B k)) n (tA B n p + 1); omega
    · rw [if_neg h2]
      by_cases h3 : isG (B (tA B n p)) = true
      · rw [if_pos h3, rq_go (Q := fun k => isG (B k)) (by omega) h3]
        have := rq_ge (fun k => isG (B k)) n (tA B n p + 1); omega
      · rw [if_neg h3]; omega
theorem tS_le (B : Nat → Nat) (n p : Nat) : tS B n p ≤ 4 := by
  unfold tS; split
  · omega
  · split
    · split <;> omega
    · split
      · split <;> omega
      · split <;> omega
/-- answers of a parse: a fault and its place, or what was read -/
abbrev ER (α : Type) : Type := (Nat × Nat) ⊕ α
def eb {α β : Type} (x : ER α) (f : α → ER β) : ER β := match x with
  | .inl e => .inl e
  | .inr a => f a
theorem eb_l {α β : Type} {e : Nat × Nat} {f : α → ER β} : eb (.inl e) f = .inl e := rfl
theorem eb_r {α β : Type} {a : α} {f : α → ER β} : eb (.inr a) f = f a := rfl
/-- names told: how many, the words, of which line, their numbers -/
abbrev NS : Type := Nat × (Nat → Int64) × (Nat → Nat) × (Nat → Nat)
def pW (B : Nat → Nat) (n i p : Nat) : ER Nat := if tS B n p = 1 ∧ tH B n p = kc i then .inr (tE B n p) else .inl (1, tA B n p)
def pN (B : Nat → Nat) (n lo hi p : Nat) : ER (Nat × Nat) := if ¬ tS B n p = 2 then .inl (1, tA B n p) else if tV B n p < lo ∨ hi < tV B n p then .inl (4, tA B n p) else .inr (tE B n p, tV B n p)
def pK (B : Nat → Nat) (n p : Nat) : ER (Nat × Nat) := if tS B n p = 1 ∧ tH B n p = kc 12 then .inr (tE B n p, 0) else if tS B n p = 1 ∧ tH B n p = kc 13 then .inr (tE B n p, 1) else if tS B n p = 1 ∧ tH B n p = kc 14 then .inr (tE B n p, 2) else .inl (1, tA B n p)
def pL (B : Nat → Nat) (n m p : Nat) : ER (Nat × Nat) := if ¬ tS B n p = 1 then .inl (1, tA B n p) else if ¬ tE B n p - tA B n p = m then .inl (7, tA B n p) else if rq (fun k => decide (B k ≤ 100)) (tE B n p) (tA B n p) < tE B n p then .inl (7, tA B n p) else .inr (tE B n p, lk B (tA B n p) (tE B n p - tA B n p))
/-- which line the token begins; 7: none -/
def lsN (B : Nat → Nat) (n p : Nat) : Nat := rq (fun k => !(decide (tS B n p = 1) && decide (tH B n p = kc k))) 7 0
def ixN (N : NS) (h : Int64) : Nat := rq (fun k => !decide (N.2.1 k = h)) N.1 0
def fN (B : Nat → Nat) (n : Nat) (N : NS) (s p : Nat) : ER Nat := if ¬ (tS B n p = 1 ∧ lsN B n p = 7) then .inl (1, tA B n p) else if ixN N (tH B n p) = N.1 ∨ ¬ N.2.2.1 (ixN N (tH B n p)) = s then .inl (2, tA B n p) else .inr (N.2.2.2 (ixN N (tH B n p)))
def adN (N : NS) (h : Int64) (s k : Nat) : NS := (N.1 + 1, fun i => if i = N.1 then h else N.2.1 i, fun i => if i = N.1 then s else N.2.2.1 i, fun i => if i = N.1 then k else N.2.2.2 i)
def nN (B : Nat → Nat) (n : Nat) (N : NS) (s k p : Nat) : ER (Nat × NS) := if ¬ (tS B n p = 1 ∧ lsN B n p = 7) then .inl (1, tA B n p) else if ixN N (tH B n p) < N.1 ∨ 17 ≤ N.1 then .inl (3, tA B n p) else .inr (tE B n p, adN N (tH B n p) s k)
def ut (t : TW) (r i x : Nat) : TW := fun r' i' => if r' = r ∧ i' = i then x else t r' i'
/-- where the reading stands: the place, the names, the town so far -/
abbrev RS : Type := Nat × NS × TW
def liT (B : Nat → Nat) (n : Nat) (s : RS) : ER RS := eb (pW B n 7 (tE B n s.1)) fun p2 => eb (pN B n 4 11 p2) fun a => eb (pW B n 8 a.1) fun p4 => eb (pN B n 12 22 p4) fun b => eb (pW B n 9 b.1) fun p6 => eb (pN B n 60 120 p6) fun c => .inr (c.1, s.2.1, ut (ut (ut s.2.2 0 0 a.2) 0 1 b.2) 0 2 c.2)
def liH (B : Nat → Nat) (n : Nat) (s : RS) : ER RS := eb (nN B n s.2.1 1 (s.2.2 0 3) (tE B n s.1)) fun a => eb (pW B n 10 a.1) fun p3 => eb (pN B n 10 59 p3) fun b => .inr (b.1, a.2, ut (ut s.2.2 1 (s.2.2 0 3) b.2) 0 3 (s.2.2 0 3 + 1))
def liL (B : Nat → Nat) (n : Nat) (s : RS) : ER RS := eb (fN B n s.2.1 1 (tE B n s.1)) fun h => eb (fN B n s.2.1 1 (tE B n (tE B n s.1))) fun g => if g = h ∨ 0 < s.2.2 2 (6 * h + g) then .inl (3, tA B n (tE B n (tE B n s.1))) else eb (pW B n 11 (tE B n (tE B n (tE B n s.1)))) fun p4 => eb (pN B n 1 60 p4) fun a => .inr (a.1, s.2.1, ut (ut (ut s.2.2 2 (6 * h + g) a.2) 2 (6 * g + h) a.2) 0 4 (s.2.2 0 4 + 1))
def pMk (t : TW) (p u l : Nat) : TW := ut (ut (ut (ut (ut t 7 (5 * p + 2) (u % 4)) 7 (5 * p + 1) (u / 4 % 4)) 7 (5 * p) (u / 4 / 4 % 4)) 7 (5 * p + 4) (l % 4)) 7 (5 * p + 3) (l / 4 % 4)
def liP (B : Nat → Nat) (n : Nat) (s : RS) : ER RS := eb (nN B n s.2.1 3 (s.2.2 0 5) (tE B n s.1)) fun a => eb (pK B n a.1) fun k => eb (pW B n 15 k.1) fun p4 => eb (fN B n a.2 1 p4) fun h => eb (pW B n 16 (tE B n p4)) fun p5 => eb (pN B n 20 99 p5) fun x => eb (pW B n 17 x.1) fun p7 => eb (pL B n 3 p7) fun u => eb (pW B n 18 u.1) fun p9 => eb (pL B n 2 p9) fun l => .inr (l.1, a.2, ut (pMk (ut (ut (ut s.2.2 4 (s.2.2 0 5) k.2) 5 (s.2.2 0 5) h) 6 (s.2.2 0 5) x.2) (s.2.2 0 5) u.2 l.2) 0 5 (s.2.2 0 5 + 1))
def liG (B : Nat → Nat) (n : Nat) (s : RS) : ER RS := eb (nN B n s.2.1 4 (s.2.2 0 6) (tE B n s.1)) fun a => eb (pW B n 19 a.1) fun p3 => eb (pN B n 1 150 p3) fun x => eb (pW B n 20 x.1) fun p5 => eb (fN B n a.2 1 p5) fun h => eb (pW B n 21 (tE B n p5)) fun p6 => eb (fN B n a.2 1 p6) fun g => if g = h then .inl (3, tA B n p6) else .inr (tE B n p6, a.2, ut (ut (ut (ut s.2.2 8 (s.2.2 0 6) x.2) 9 (s.2.2 0 6) h) 10 (s.2.2 0 6) g) 0 6 (s.2.2 0 6 + 1))
def liV (B : Nat → Nat) (n : Nat) (s : RS) : ER RS := eb (fN B n s.2.1 3 (tE B n s.1)) fun v => eb (fN B n s.2.1 1 (tE B n (tE B n s.1))) fun h => eb (pW B n 22 (tE B n (tE B n (tE B n s.1)))) fun p4 => eb (pN B n 0 23 p4) fun x => .inr (x.1, s.2.1, ut (ut (ut (ut s.2.2 11 (s.2.2 0 7) v) 12 (s.2.2 0 7) h) 13 (s.2.2 0 7) x.2) 0 7 (s.2.2 0 7 + 1))
def liK (B : Nat → Nat) (n : Nat) (s : RS) : ER RS := eb (fN B n s.2.1 1 (tE B n s.1)) fun h => eb (pL B n 2 (tE B n (tE B n s.1))) fun f => eb (pW B n 23 f.1) fun p4 => eb (pN B n 0 20 p4) fun x => .inr (x.1, s.2.1, ut (ut (ut (ut s.2.2 14 (s.2.2 0 8) h) 15 (s.2.2 0 8) f.2) 16 (s.2.2 0 8) x.2) 0 8 (s.2.2 0 8 + 1))
/-- a line -/
def liA (B : Nat → Nat) (n : Nat) (s : RS) : ER RS :=
  if lsN B n s.1 = 7 then .inl (1, tA B n s.1) else if lsN B n s.1 = 0 then (if 0 < s.2.2 0 2 then .inl (3, tA B n s.1) else liT B n s) else if ¬ 0 < s.2.2 0 2 then .inl (6, tA B n s.1)
  else if lsN B n s.1 = 1 then (if s.2.2 0 3 < 6 then liH B n s else .inl (5, tA B n s.1)) else if lsN B n s.1 = 2 then (if s.2.2 0 4 < 9 then liL B n s else .inl (5, tA B n s.1))
  else if lsN B n s.1 = 3 then (if s.2.2 0 5 < 6 then liP B n s else .inl (5, tA B n s.1)) else if lsN B n s.1 = 4 then (if s.2.2 0 6 < 5 then liG B n s else .inl (5, tA B n s.1))
  else if lsN B n s.1 = 5 then (if s.2.2 0 7 < 8 then liV B n s else .inl (5, tA B n s.1)) else (if s.2.2 0 8 < 5 then liK B n s else .inl (5, tA B n s.1))
/-- all lines -/
def rdA (B : Nat → Nat) (n : Nat) : Nat → RS → ER RS
  | 0, s => .inl (1, tA B n s.1)
  | k + 1, s => eb (liA B n s) fun s' => if tS B n s'.1 = 0 then (if s'.2.2 0 3 = 0 ∨ s'.2.2 0 5 = 0 then .inl (6, tA B n s'.1) else .inr s') else if ¬ tS B n s'.1 = 3 then .inl (1, tA B n s'.1) else rdA B n k (tE B n s'.1, s'.2)
def t00 : TW := fun _ _ => 0
def n00 : NS := (0, fun _ => 0, fun _ => 0, fun _ => 0)
/-- a text of n bytes, read -/
def rdT (B : Nat → Nat) (n : Nat) : ER RS := rdA B n n (0, n00, t00)
/-- what holds of the names -/
def NI (N : NS) (t : TW) : Prop := N.1 ≤ 17 ∧ N.1 = t 0 3 + t 0 5 + t 0 6 ∧ ∀ k, k < N.1 → (N.2.2.1 k = 1 → N.2.2.2 k < t 0 3) ∧ (N.2.2.1 k = 3 → N.2.2.2 k < t 0 5) ∧ (N.2.2.1 k = 1 ∨ N.2.2.1 k = 3 ∨ N.2.2.1 k = 4)
/-- numbers of three digits -/
theorem hv_dv (B : Nat → Nat) (p : Nat) : ∀ k, k ≤ 3 → (∀ j, j < k → isG (B (p + j)) = true ∧ B (p + j) < 256) → hv 10 (gG B) p k = lN (dv B p k) ∧ dv B p k < 10 ^ k := by
  intro k
  induction k with
  | zero => intro _ _; exact ⟨rfl, by simp [dv]⟩
  | succ k ih =>
    intro hk h
    obtain ⟨i1, i2⟩ := ih (by omega) (fun j hj => h j (by omega))
    obtain ⟨h1, h2⟩ := h k (by omega)
    have e := ((sx_lt _ h2).2.2.2.2.2.2.2.2 h1).2
    have hb : B (p + k) - 48 ≤ 9 := by
      unfold isG at h1
      simp only [Bool.and_eq_true, decide_eq_true_eq] at h1
      omega
    have hp : 10 ^ k ≤ 100 := by
      have : k = 0 ∨ k = 1 ∨ k = 2 := by omega
      rcases this with rfl | rfl | rfl <;> decide
    refine ⟨?_, ?_⟩
    · rw [hv, dv, i1, gG, e, nI_l (by omega), show (10 : Int64) = lN 10 from rfl, lN_mul, lN_add]
    · rw [dv, Nat.pow_succ]; omega
