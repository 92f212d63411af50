/-! SPEC: a town as numbers; what the class's cells hold of it -/
abbrev TW : Type := Nat → Nat → Nat
/-- bounds of a town's numbers; rows: 0 dawn dusk door houses lanes people goods visits prints; 1 sill, 2 minutes, 3 far, 4 kind, 5 of, 6 tall, 7 mark, 8 size, 9 at, 10 to, 11 visitor, 12 visited, 13 hour, 14 print's house, 15 print, 16 night -/
def WT (t : TW) : Prop := (t 0 0 ≤ 11 ∧ t 0 1 ≤ 22 ∧ t 0 2 ≤ 120 ∧ t 0 3 ≤ 6 ∧ t 0 4 ≤ 9 ∧ t 0 5 ≤ 6 ∧ t 0 6 ≤ 5 ∧ t 0 7 ≤ 8 ∧ t 0 8 ≤ 5) ∧ (∀ h, h < t 0 3 → 10 ≤ t 1 h ∧ t 1 h ≤ 59) ∧ (∀ i, t 2 i ≤ 60) ∧ (∀ p, p < t 0 5 → t 4 p ≤ 2 ∧ t 5 p < t 0 3 ∧ 20 ≤ t 6 p ∧ t 6 p ≤ 99 ∧ ∀ i, i < 5 → t 7 (5 * p + i) < 4) ∧ (∀ g, g < t 0 6 → 1 ≤ t 8 g ∧ t 8 g ≤ 150 ∧ t 9 g < t 0 3 ∧ t 10 g < t 0 3) ∧ (∀ v, v < t 0 7 → t 11 v < t 0 5 ∧ t 12 v < t 0 3 ∧ t 13 v < 24) ∧ (∀ k, k < t 0 8 → t 14 k < t 0 3 ∧ t 15 k < 16 ∧ t 16 k ≤ 20)
/-- what a town that was told has besides -/
def LT (t : TW) : Prop := 4 ≤ t 0 0 ∧ 12 ≤ t 0 1 ∧ 60 ≤ t 0 2 ∧ 1 ≤ t 0 3 ∧ 1 ≤ t 0 5 ∧ (∀ a b, a < 6 → b < 6 → t 2 (6 * a + b) = t 2 (6 * b + a)) ∧ (∀ a, a < 6 → t 2 (6 * a + a) = 0) ∧ (∀ a b, a < 6 → b < 6 → (t 0 3 ≤ a ∨ t 0 3 ≤ b) → t 2 (6 * a + b) = 0) ∧ ∀ g, g < t 0 6 → t 9 g ≠ t 10 g
def cf (x : Nat) : Nat := if x < 99999 then x else 1000000
/-- the class's town T holds t -/
def RX (mi : MI) (T : Nat) (t : TW) : Prop := (mi T 1 = nI (t 0 0) ∧ mi T 2 = nI (t 0 1) ∧ mi T 3 = nI (t 0 2) ∧ mi T 4 = nI (t 0 3) ∧ mi (T + 2) 0 = nI (t 0 4) ∧ mi T 5 = nI (t 0 5) ∧ mi T 6 = nI (t 0 6) ∧ mi T 7 = nI (t 0 7) ∧ mi T 8 = nI (t 0 8)) ∧ (∀ h, h < t 0 3 → mi (T + 1) h = nI (t 1 h)) ∧ (∀ i, i < 36 → mi (T + 3) i = nI (t 2 i)) ∧ (0 < t 0 3 → ∀ i, i < 36 → mi (T + 4) i = nI (cf (t 3 i))) ∧ (∀ p, p < t 0 5 → mi (T + 10 + p) 0 = nI (t 4 p) ∧ mi (T + 10 + p) 1 = nI (t 5 p) ∧ mi (T + 10 + p) 2 = nI (t 6 p) ∧ ∀ i, i < 5 → mi (T + 10 + p + 10) i = nI (t 7 (5 * p + i))) ∧ (∀ g, g < t 0 6 → mi (T + 30 + g) 0 = nI (t 8 g) ∧ mi (T + 30 + g) 1 = nI (t 9 g) ∧ mi (T + 30 + g) 2 = nI (t 10 g)) ∧ (∀ v, v < t 0 7 → mi (T + 40 + v) 0 = nI (t 11 v) ∧ mi (T + 40 + v) 1 = nI (t 12 v) ∧ mi (T + 40 + v) 2 = nI (t 13 v)) ∧ (∀ k, k < t 0 8 → mi (T + 50 + k) 0 = nI (t 14 k) ∧ mi (T + 50 + k) 1 = nI (t 15 k) ∧ mi (T + 50 + k) 2 = nI (t 16 k))
/-- numbers -/
theorem z0 : (0 : Int32) = nI 0 := rfl
theorem ife {a b : Nat} {A B : Prop} (ha : a < 2 ^ 31) (hb : b < 2 ^ 31) : (if nI a = nI b then A else B) = (if a = b then A else B) := by
  by_cases h : a = b
  · rw [if_pos (by rw [h]), if_pos h]
  · rw [if_neg (fun q => h ((nI_eq ha hb).mp q)), if_neg h]
theorem ifle {a b : Nat} {A B : Prop} (ha : a < 2 ^ 31) (hb : b < 2 ^ 31) : (if nI a ≤ nI b then A else B) = (if a ≤ b then A else B) := by
  by_cases h : a ≤ b
  · rw [if_pos ((nI_leI ha hb).mpr h), if_pos h]
  · rw [if_neg (fun q => h ((nI_leI ha hb).mp q)), if_neg h]
theorem iflt {a b : Nat} {A B : Prop} (ha : a < 2 ^ 31) (hb : b < 2 ^ 31) : (if nI a < nI b then A else B) = (if a < b then A else B) := by
  by_cases h : a < b
  · rw [if_pos ((nI_ltI ha hb).mpr h), if_pos h]
  · rw [if_neg (fun q => h ((nI_ltI ha hb).mp q)), if_neg h]
/-- true and false as numbers -/
def bN (b : Bool) : Nat := if b then 1 else 0
theorem bN_01 (b : Bool) : nI (bN b) = 0 ∨ nI (bN b) = 1 := by cases b; exact Or.inl rfl; exact Or.inr rfl
theorem bN_eq0 (b : Bool) : (nI (bN b) = 0) = (b = false) := by cases b <;> simp [bN] <;> decide
theorem ifb (b : Bool) {A B : Prop} : (if nI (bN b) = 0 then A else B) = (if b = true then B else A) := by
  cases b
  · rw [if_pos (show nI (bN false) = 0 from rfl), if_neg (by decide)]
  · rw [if_neg (show ¬ nI (bN true) = 0 by decide), if_pos rfl]
theorem nI_subLe {a b c : Nat} (ha : a < 2 ^ 29) (hb : b < 2 ^ 29) (hc : c < 2 ^ 29) : nI a - nI b ≤ nI c ↔ a ≤ b + c := by
  rw [Int32.le_iff_toInt_le, pk_sub_toInt (by omega) (by omega), nI_toInt (by omega)]; omega
theorem imax_sub {a b : Nat} (ha : a < 2 ^ 29) (hb : b < 2 ^ 29) : imax 0 (nI a - nI b) = nI (a - b) := by
  unfold imax
  by_cases h : b < a
  · rw [if_pos (by rw [Int32.lt_iff_toInt_lt, pk_sub_toInt (by omega) (by omega), Int32.toInt_zero]; omega), pk_sub (by omega)]
  · rw [if_neg (by rw [Int32.lt_iff_toInt_lt, pk_sub_toInt (by omega) (by omega), Int32.toInt_zero]; omega), show a - b = 0 by omega]; rfl
theorem bit_tst : ∀ n, n < 64 → ∀ i, i < 6 → ((nI n >>> (nI i &&& 31)) &&& 1 = 1) = (n.testBit i = true) := by
  have h : ∀ n, n < 64 → ∀ i, i < 6 → (decide ((nI n >>> (nI i &&& 31)) &&& 1 = 1)) = n.testBit i := by decide +kernel
  intro n hn i hi
  have := h n hn i hi
  rw [← this]; simp
theorem bit_set : ∀ n, n < 256 → ∀ i, i < 8 → nI n ||| ((1 : Int32) <<< (nI i &&& 31)) = nI (n ||| 2 ^ i) := by decide +kernel
theorem bit_one : ∀ i, i < 8 → (1 : Int32) <<< (nI i &&& 31) = nI (2 ^ i) := by decide +kernel
/-- what of a town a call asks -/
def isD (t : TW) (x : Nat) : Bool := decide (t 0 0 ≤ x) && decide (x < t 0 1)
def over (h s : Nat) : Nat := (if s < h then 1 else 0) + (if s + 10 < h then 1 else 0) + (if s + 20 < h then 1 else 0)
def shw (k h s : Nat) (b : Bool) : Nat := if b then 2 ^ over h s - 1 else if k = 2 then 7 else 31
def like (m1 m2 : Nat → Nat) (bits : Nat) : Bool := (List.range 5).all fun i => !bits.testBit i || decide (m1 i = m2 i)
def fineO (k h s : Nat) (b : Bool) : Nat := if b && decide (k ≠ 1) then h / 2 - s else 0
def mks (t : TW) (p : Nat) : Nat → Nat := fun i => t 7 (5 * p + i)
def passF (t : TW) (p q s : Nat) (b : Bool) : Bool := decide (shw (t 4 p) (t 6 p) s b = shw (t 4 q) (t 6 q) s b) && like (mks t p) (mks t q) (shw (t 4 p) (t 6 p) s b)
theorem over_le (h s : Nat) : over h s ≤ 3 := by unfold over; split <;> split <;> split <;> omega
theorem shw_lt (k h s : Nat) (b : Bool) : shw k h s b < 32 := by
  unfold shw
  have := over_le h s
  split
  · have h2 : over h s = 0 ∨ over h s = 1 ∨ over h s = 2 ∨ over h s = 3 := by omega
    rcases h2 with q | q | q | q <;> rw [q] <;> decide
  · split <;> decide
theorem lp {H Q : Nat → Prop} {n : Nat} (ex : Q n → H n) (step : ∀ i, i < n → Q i → (Q (i + 1) → H (i + 1)) → H i) : Q 0 → H 0 := by
  have key : ∀ k, k ≤ n → Q (n - k) → H (n - k) := by
    intro k
    induction k with
    | zero => intro _; exact ex
    | succ k ih =>
      intro hk hq
      refine step (n - (k + 1)) (by omega) hq ?_
      rw [show n - (k + 1) + 1 = n - k by omega]
      exact ih (by omega)
  have := key n (Nat.le_refl n)
  rw [Nat.sub_self] at this
  exact this
/-- a person's cells -/
def PV (mi : MI) (mr : MR) (a k h : Nat) (m : Nat → Nat) : Prop := kd a = 3 ∧ mr a 3 = some (a + 10) ∧ kd (a + 10) = 15 ∧ ln (a + 10) = 5 ∧ mi a 0 = nI k ∧ mi a 2 = nI h ∧ (∀ i, i < 5 → mi (a + 10) i = nI (m i)) ∧ k ≤ 2 ∧ h ≤ 99 ∧ ∀ i, i < 5 → m i < 4
section RXA
variable {mi : MI} {mr : MR} {T : Nat} {t : TW}
theorem RX.dawn (h : RX mi T t) : mi T 1 = nI (t 0 0) := h.1.1
theorem RX.dusk (h : RX mi T t) : mi T 2 = nI (t 0 1) := h.1.2.1
theorem RX.door (h : RX mi T t) : mi T 3 = nI (t 0 2) := h.1.2.2.1
theorem RX.houses (h : RX mi T t) : mi T 4 = nI (t 0 3) := h.1.2.2.2.1
theorem RX.lanes (h : RX mi T t) : mi (T + 2) 0 = nI (t 0 4) := h.1.2.2.2.2.1
theorem RX.people (h : RX mi T t) : mi T 5 = nI (t 0 5) := h.1.2.2.2.2.2.1
theorem RX.goods (h : RX mi T t) : mi T 6 = nI (t 0 6) := h.1.2.2.2.2.2.2.1
theorem RX.visits (h : RX mi T t) : mi T 7 = nI (t 0 7) := h.1.2.2.2.2.2.2.2.1
theorem RX.prints (h : RX mi T t) : mi T 8 = nI (t 0 8) := h.1.2.2.2.2.2.2.2.2
theorem RX.sill (h : RX mi T t) {i : Nat} (hi : i < t 0 3) : mi (T + 1) i = nI (t 1 i) := h.2.1 i hi
theorem RX.min (h : RX mi T t) {i : Nat} (hi : i < 36) : mi (T + 3) i = nI (t 2 i) := h.2.2.1 i hi
theorem RX.few (h : RX mi T t) (h0 : 0 < t 0 3) {i : Nat} (hi : i < 36) : mi (T + 4) i = nI (cf (t 3 i)) := h.2.2.2.1 h0 i hi
theorem RX.pe (h : RX mi T t) {p : Nat} (hp : p < t 0 5) : mi (T + 10 + p) 0 = nI (t 4 p) ∧ mi (T + 10 + p) 1 = nI (t 5 p) ∧ mi (T + 10 + p) 2 = nI (t 6 p) ∧ ∀ i, i < 5 → mi (T + 10 + p + 10) i = nI (t 7 (5 * p + i)) := h.2.2.2.2.1 p hp
theorem RX.go (h : RX mi T t) {g : Nat} (hg : g < t 0 6) : mi (T + 30 + g) 0 = nI (t 8 g) ∧ mi (T + 30 + g) 1 = nI (t 9 g) ∧ mi (T + 30 + g) 2 = nI (t 10 g) := h.2.2.2.2.2.1 g hg
theorem RX.vi (h : RX mi T t) {v : Nat} (hv : v < t 0 7) : mi (T + 40 + v) 0 = nI (t 11 v) ∧ mi (T + 40 + v) 1 = nI (t 12 v) ∧ mi (T + 40 + v) 2 = nI (t 13 v) := h.2.2.2.2.2.2.1 v hv
theorem RX.pr (h : RX mi T t) {k : Nat} (hk : k < t 0 8) : mi (T + 50 + k) 0 = nI (t 14 k) ∧ mi (T + 50 + k) 1 = nI (t 15 k) ∧ mi (T + 50 + k) 2 = nI (t 16 k) := h.2.2.2.2.2.2.2 k hk
theorem WT.pe (h : WT t) {p : Nat} (hp : p < t 0 5) : t 4 p ≤ 2 ∧ t 5 p < t 0 3 ∧ 20 ≤ t 6 p ∧ t 6 p ≤ 99 ∧ ∀ i, i < 5 → t 7 (5 * p + i) < 4 := h.2.2.2.1 p hp
theorem WT.go (h : WT t) {g : Nat} (hg : g < t 0 6) : 1 ≤ t 8 g ∧ t 8 g ≤ 150 ∧ t 9 g < t 0 3 ∧ t 10 g < t 0 3 := h.2.2.2.2.1 g hg
theorem WT.vi (h : WT t) {v : Nat} (hv : v < t 0 7) : t 11 v < t 0 5 ∧ t 12 v < t 0 3 ∧ t 13 v < 24 := h.2.2.2.2.2.1 v hv
theorem WT.pr (h : WT t) {k : Nat} (hk : k < t 0 8) : t 14 k < t 0 3 ∧ t 15 k < 16 ∧ t 16 k ≤ 20 := h.2.2.2.2.2.2 k hk
theorem WT.si (h : WT t) {i : Nat} (hi : i < t 0 3) : 10 ≤ t 1 i ∧ t 1 i ≤ 59 := h.2.1 i hi
theorem pv (hX : XR mr) (hT : TT T) (hW : WT t) (hR : RX mi T t) {p : Nat} (hp : p < t 0 5) : PV mi mr (T + 10 + p) (t 4 p) (t 6 p) (mks t p) := by
  have h6 : p < 6 := Nat.lt_of_lt_of_le hp hW.1.2.2.2.2.2.1
  obtain ⟨w1, -, -, w4, w5⟩ := hW.pe hp
  obtain ⟨r1, -, r3, r4⟩ := hR.pe hp
  exact ⟨kP hT h6, xT_m hX hT h6, kM hT h6, lM hT h6, r1, r3, r4, w1, w4, w5⟩
end RXA
