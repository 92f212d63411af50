/-! the reference: round -/
def trF (fw : Nat → Nat) (os a : Nat) (T : Nat → Nat) (g b : Nat) : Nat := if os.testBit g then min b (fw (6 * a + g) + T g) else b
def trT (fw : Nat → Nat) (s : Nat) : Nat → Nat → Nat → Nat
  | 0, a, _ => fw (6 * a + s)
  | n + 1, a, os => if os = 0 then fw (6 * a + s) else fu (trF fw os a (fun g => trT fw s n g (os - 2 ^ g))) 6 1000000000
theorem trF_t {fw : Nat → Nat} {os a : Nat} {T : Nat → Nat} {g b : Nat} (h : os.testBit g = true) : trF fw os a T g b = min b (fw (6 * a + g) + T g) := if_pos h
theorem trF_f {fw : Nat → Nat} {os a : Nat} {T : Nat → Nat} {g b : Nat} (h : ¬ os.testBit g = true) : trF fw os a T g b = b := if_neg h
theorem trF_dn {fw : Nat → Nat} {os a : Nat} {T : Nat → Nat} (g b : Nat) : trF fw os a T g b ≤ b := by unfold trF; split; exact Nat.min_le_left _ _; exact Nat.le_refl _
theorem fu_le0 {F : Nat → Nat → Nat} (hF : ∀ g b, F g b ≤ b) : ∀ n b, fu F n b ≤ b
  | 0, _ => Nat.le_refl _
  | n + 1, b => Nat.le_trans (hF n _) (fu_le0 hF n b)
theorem trT_big (fw : Nat → Nat) (s : Nat) (hf : ∀ i, fw i ≤ 1000000) : ∀ n a os, trT fw s n a os ≤ 1000000000
  | 0, a, _ => Nat.le_trans (hf _) (by decide)
  | n + 1, a, os => by
    unfold trT; split
    · exact Nat.le_trans (hf _) (by decide)
    · exact fu_le0 (fun g b => trF_dn g b) 6 _
theorem gr_T (fw : Nat → Nat) (s : Nat) : ∀ n a os sum best, best ≤ 1000000000 → gr fw s n a os sum best = min best (sum + trT fw s n a os) := by
  intro n
  induction n with
  | zero =>
    intro a os sum best hb
    unfold gr trT; split <;> omega
  | succ n ih =>
    intro a os sum best hb
    unfold gr
    rw [trT]
    by_cases h1 : best ≤ sum
    · rw [if_pos h1]; omega
    · rw [if_neg h1]
      by_cases h2 : os = 0
      · rw [if_pos h2, if_pos h2]
      · rw [if_neg h2, if_neg h2]
        have key : ∀ k, fu (fun g b => if os.testBit g then gr fw s n g (os - 2 ^ g) (sum + fw (6 * a + g)) b else b) k best = min best (sum + fu (trF fw os a (fun g => trT fw s n g (os - 2 ^ g))) k 1000000000) := by
          intro k
          induction k with
          | zero => show best = min best (sum + 1000000000); omega
          | succ k ihk =>
            show (if os.testBit k then gr fw s n k (os - 2 ^ k) (sum + fw (6 * a + k)) (fu _ k best) else fu _ k best) = min best (sum + trF fw os a _ k (fu _ k 1000000000))
            rw [ihk]
            by_cases hk : os.testBit k = true
            · rw [if_pos hk, trF_t hk, ih _ _ _ _ (by omega)]; omega
            · rw [if_neg hk, trF_f hk]
        exact key 6
theorem fu_congr0 {F F' : Nat → Nat → Nat} {b : Nat} : ∀ n, (∀ g b, g < n → F g b = F' g b) → fu F n b = fu F' n b
  | 0, _ => rfl
  | n + 1, h => by
    show F n (fu F n b) = F' n (fu F' n b)
    rw [fu_congr0 n (fun g b hg => h g b (by omega)), h n _ (by omega)]
theorem bit_lt {os g : Nat} (h : os < 64) (hb : os.testBit g = true) : g < 6 := by
  rcases Nat.lt_or_ge g 6 with q | q
  · exact q
  · rw [Nat.testBit_lt_two_pow (Nat.lt_of_lt_of_le h (Nat.pow_le_pow_right (n := 2) (by decide) q : 2 ^ 6 ≤ 2 ^ g))] at hb; cases hb
theorem clr_lt {os g : Nat} (h : os < 64) : os - 2 ^ g < 64 := Nat.lt_of_le_of_lt (Nat.sub_le _ _) h
theorem trT_fu {fw : Nat → Nat} {s : Nat} : ∀ n a os, os < 64 → popc os ≤ n → trT fw s (n + 1) a os = trT fw s n a os := by
  intro n
  induction n with
  | zero =>
    intro a os h6 h
    have : os = 0 := pop_0 os h6 (by omega)
    subst this; rfl
  | succ n ih =>
    intro a os h6 h
    rw [trT, trT]
    by_cases h0 : os = 0
    · rw [if_pos h0, if_pos h0]
    · rw [if_neg h0, if_neg h0]
      refine fu_congr0 6 (fun g b hg => ?_)
      by_cases hb : os.testBit g = true
      · rw [trF_t hb, trF_t hb, ih g (os - 2 ^ g) (clr_lt h6) (by have := pop_clr os h6 g hg hb; omega)]
      · rw [trF_f hb, trF_f hb]
theorem trT_6 {fw : Nat → Nat} {s a os : Nat} (h6 : os < 64) (hp : popc os ≤ 5) : trT fw s 6 a os = trT fw s 5 a os := trT_fu 5 a os h6 hp
theorem clr_bit : ∀ os, os < 64 → ∀ g, g < 6 → os.testBit g = true → ∀ x, x < 6 → (os - 2 ^ g).testBit x = (os.testBit x && decide (x ≠ g)) := by decide +kernel
theorem trT_cg {fw fw' : Nat → Nat} {s : Nat} {P : Nat → Prop} (hs : P s) (hfw : ∀ a b, P a → P b → fw (6 * a + b) = fw' (6 * a + b)) : ∀ n a os, os < 64 → P a → (∀ x, x < 6 → os.testBit x = true → P x) → trT fw s n a os = trT fw' s n a os := by
  intro n
  induction n with
  | zero => intro a os _ ha _; exact hfw a s ha hs
  | succ n ih =>
    intro a os h6 ha hos
    rw [trT, trT]
    by_cases h0 : os = 0
    · rw [if_pos h0, if_pos h0]; exact hfw a s ha hs
    · rw [if_neg h0, if_neg h0]
      refine fu_congr0 6 (fun g b hg => ?_)
      by_cases hb : os.testBit g = true
      · rw [trF_t hb, trF_t hb, hfw a g ha (hos g hg hb), ih g (os - 2 ^ g) (clr_lt h6) (hos g hg hb) (fun x hx hxb => hos x hx (by rw [clr_bit os h6 g hg hb x hx, Bool.and_eq_true] at hxb; exact hxb.1))]
      · rw [trF_f hb, trF_f hb]
theorem fu_hit {F : Nat → Nat → Nat} (hF : ∀ g b, F g b ≤ b) {k c : Nat} (hk : ∀ b, F k b ≤ c) : ∀ n b, k < n → fu F n b ≤ c
  | 0, _, h => absurd h (Nat.not_lt_zero _)
  | n + 1, b, h => by
    by_cases e : k = n
    · subst e; exact hk _
    · exact Nat.le_trans (hF n _) (fu_hit hF hk n b (by omega))
theorem some_bit : ∀ os, os < 64 → os ≠ 0 → ∃ x, x < 6 ∧ os.testBit x = true := by decide +kernel
theorem trT_le {fw : Nat → Nat} {s : Nat} {P : Nat → Prop} (hs : P s) (hfw : ∀ a b, P a → P b → fw (6 * a + b) ≤ 3840) : ∀ n a os, os < 64 → P a → (∀ x, x < 6 → os.testBit x = true → P x) → trT fw s n a os ≤ (n + 1) * 3840 := by
  intro n
  induction n with
  | zero => intro a os _ ha _; rw [trT]; have := hfw a s ha hs; omega
  | succ n ih =>
    intro a os h6 ha hos
    rw [trT]
    by_cases h0 : os = 0
    · rw [if_pos h0]; have := hfw a s ha hs; omega
    · rw [if_neg h0]
      obtain ⟨x, hx, hb⟩ := some_bit os h6 h0
      refine fu_hit (fun g b => trF_dn g b) (k := x) (fun b => ?_) 6 _ hx
      rw [trF_t hb]
      have := ih x (os - 2 ^ x) (clr_lt h6) (hos x hx hb) (fun y hy hyb => hos y hy (by rw [clr_bit os h6 x hx hb y hy, Bool.and_eq_true] at hyb; exact hyb.1))
      have := hfw a x ha (hos x hx hb)
      omega
/-- the start of a smallest does not matter -/
theorem fu_min0 {fw : Nat → Nat} {os a : Nat} {T : Nat → Nat} {B C : Nat} (hBC : B ≤ C) : ∀ n, fu (trF fw os a T) n B = min B (fu (trF fw os a T) n C) := by
  intro n
  induction n with
  | zero => show B = min B C; omega
  | succ n ih =>
    show trF fw os a T n (fu _ n B) = min B (trF fw os a T n (fu _ n C))
    rw [ih]
    by_cases hb : os.testBit n = true
    · rw [trF_t hb, trF_t hb]; omega
    · rw [trF_f hb, trF_f hb]
section RND
variable {t : TW} {h : Nat}
def inC (t : TW) (h a : Nat) : Prop := a < 6 ∧ t 3 (6 * h + a) < 99999
theorem inC.d (hD : DS 99999 (t 2) (t 3)) (hh : h < 6) {a b : Nat} (ha : inC t h a) (hb : inC t h b) : t 3 (6 * a + b) < 99999 ∧ t 3 (6 * a + b) ≤ 3840 := by
  have e1 := hD.2.2.2.2.2.2 _ ha.2
  have e2 := hD.2.2.2.2.2.2 _ hb.2
  have e3 := hD.2.2.1 a h b ha.1 hh hb.1
  have e4 := hD.2.2.2.2.2.1 a h ha.1 hh
  have e5 : t 3 (6 * a + b) < 99999 := by omega
  exact ⟨e5, hD.2.2.2.2.2.2 _ e5⟩
theorem far_out (hL : LT t) (hD : DS 99999 (t 2) (t 3)) (hh : h < 6) {g : Nat} (hg : g < 6) (hgo : t 0 3 ≤ g) (hne : g ≠ h) : ¬ t 3 (6 * h + g) < 99999 := fun q => by
  rw [hD.2.2.2.2.2.1 h g hh hg] at q
  obtain ⟨b, b1, b2, -⟩ := hD.2.2.2.1 g h hg hh hne q
  rw [hL.2.2.2.2.2.2.2.1 g b hg b1 (Or.inl hgo)] at b2; omega
def allR (t : TW) (h n : Nat) : Nat := bst (fun g => decide (g ≠ h) && decide (t 3 (6 * h + g) < 99999)) n
theorem bst_bit (P : Nat → Bool) : ∀ n x, (bst P n).testBit x = (decide (x < n) && P x)
  | 0, x => by simp [bst]
  | n + 1, x => by
    unfold bst
    by_cases hP : P n = true
    · rw [if_pos hP, Nat.testBit_or, bst_bit P n x, Nat.testBit_two_pow]
      by_cases e : n = x
      · subst e; simp [hP]
      · rw [decide_eq_false e, Bool.or_false]
        by_cases q : x < n
        · rw [decide_eq_true q, decide_eq_true (show x < n + 1 by omega)]
        · rw [decide_eq_false q, decide_eq_false (show ¬ x < n + 1 by omega)]
    · rw [if_neg hP, bst_bit P n x]
      by_cases e : x = n
      · subst e; rw [decide_eq_false (Nat.lt_irrefl _)]; simp [hP]
      · by_cases q : x < n
        · rw [decide_eq_true q, decide_eq_true (show x < n + 1 by omega)]
        · rw [decide_eq_false q, decide_eq_false (show ¬ x < n + 1 by omega)]
theorem bst_cg {P Q : Nat → Bool} {n m : Nat} (h : ∀ x, (decide (x < n) && P x) = (decide (x < m) && Q x)) : bst P n = bst Q m := Nat.eq_of_testBit_eq fun x => by rw [bst_bit, bst_bit, h x]
theorem cf_fin (x : Nat) : decide (cf x < 1000000) = decide (x < 99999) := by
  by_cases q : x < 99999
  · rw [cf_lt q, decide_eq_true q, decide_eq_true (show x < 1000000 by omega)]
  · rw [cf_ge q, decide_eq_false q]; rfl
theorem oth_all (hL : LT t) (hW : WT t) (hD : DS 99999 (t 2) (t 3)) (hh : h < 6) : oth (fun i => cf (t 3 i)) h = allR t h (t 0 3) := by
  have h6 := hW.1.2.2.2.1
  unfold oth allR
  refine bst_cg fun x => ?_
  show (_ && (_ && decide (cf (t 3 (6 * h + x)) < 1000000))) = _
  rw [cf_fin]
  by_cases q : x < t 0 3
  · rw [decide_eq_true q, decide_eq_true (show x < 6 by omega)]
  · rw [decide_eq_false q, Bool.false_and]
    by_cases q6 : x < 6
    · by_cases e : x = h
      · subst e; simp
      · rw [decide_eq_false (far_out hL hD hh q6 (by omega) e)]; simp
    · rw [decide_eq_false q6, Bool.false_and]
theorem all_in (h6 : t 0 3 ≤ 6) {x : Nat} (hx : (allR t h (t 0 3)).testBit x = true) : inC t h x ∧ x ≠ h ∧ x < t 0 3 := by
  unfold allR at hx
  rw [bst_bit, Bool.and_eq_true, Bool.and_eq_true, decide_eq_true_eq, decide_eq_true_eq, decide_eq_true_eq] at hx
  exact ⟨⟨by omega, hx.2.2⟩, hx.2.1, hx.1⟩
theorem self_in (hD : DS 99999 (t 2) (t 3)) (hh : h < 6) : inC t h h := ⟨hh, by rw [hD.1 h hh]; decide⟩
theorem all_64 (h6 : t 0 3 ≤ 6) : allR t h (t 0 3) < 64 := Nat.lt_of_lt_of_le (bst_lt _ _) (Nat.pow_le_pow_right (n := 2) (by decide) h6)
theorem all_p5 (h6 : t 0 3 ≤ 6) (hh : h < 6) : popc (allR t h (t 0 3)) ≤ 5 := by
  have h1 : allR t h (t 0 3) < 64 := all_64 h6
  have h2 : (allR t h (t 0 3)).testBit h = false := by
    cases q : (allR t h (t 0 3)).testBit h
    · rfl
    · exact absurd rfl (all_in h6 q).2.1
  exact (show ∀ n, n < 64 → ∀ i, i < 6 → n.testBit i = false → popc n ≤ 5 by decide +kernel) _ h1 h hh h2
/-- the class's round -/
theorem rnd_C (hL : LT t) (hW : WT t) (hD : DS 99999 (t 2) (t 3)) (hh : h < 6) : rndC (fun i => cf (t 3 i)) h = trT (t 3) h 6 h (allR t h (t 0 3)) := by
  have h6 := hW.1.2.2.2.1
  unfold rndC
  rw [gr_T _ _ _ _ _ _ _ (by decide), oth_all hL hW hD hh, Nat.zero_add]
  have hs := self_in hD hh
  have ho : ∀ x, x < 6 → (allR t h (t 0 3)).testBit x = true → inC t h x := fun x _ hx => (all_in h6 hx).1
  have e : trT (fun i => cf (t 3 i)) h 6 h (allR t h (t 0 3)) = trT (t 3) h 6 h (allR t h (t 0 3)) :=
    trT_cg (P := inC t h) hs (fun a b ha hb => cf_lt (inC.d hD hh ha hb).1) 6 h _ (all_64 h6) hs ho
  have l := trT_le (P := inC t h) (fw := t 3) hs (fun a b ha hb => (inC.d hD hh ha hb).2) 6 h _ (all_64 h6) hs ho
  rw [e]; omega
/-- the reference's table -/
def gbv (t : TW) (h last rest : Nat) (D : Nat → Nat) : Nat := if rest = 0 then t 3 (6 * h + last) else fu (fun f b => if rest.testBit f then min b (D f + t 3 (6 * f + last)) else b) (t 0 3) 99999
theorem gbv_T (hD : DS 99999 (t 2) (t 3)) (h6 : t 0 3 ≤ 6) (hh : h < 6) {last rest : Nat} (hl : inC t h last) (hr : rest < 64) (hp : popc rest ≤ 5) (hin : ∀ x, rest.testBit x = true → inC t h x ∧ x < t 0 3) {D : Nat → Nat} (hDf : ∀ f, rest.testBit f = true → D f = trT (t 3) h 6 f (rest - 2 ^ f)) : gbv t h last rest D = trT (t 3) h 6 last rest := by
  unfold gbv
  rw [trT]
  by_cases h0 : rest = 0
  · rw [if_pos h0, if_pos h0, hD.2.2.2.2.2.1 h last hh hl.1]
  · rw [if_neg h0, if_neg h0]
    have hs := self_in hD hh
    have e1 : fu (fun f b => if rest.testBit f then min b (D f + t 3 (6 * f + last)) else b) (t 0 3) 99999 = fu (trF (t 3) rest last (fun g => trT (t 3) h 5 g (rest - 2 ^ g))) (t 0 3) 99999 := by
      refine fu_congr0 _ (fun g b hg => ?_)
      by_cases hb : rest.testBit g = true
      · rw [if_pos hb, trF_t hb, hDf g hb, trT_6 (clr_lt hr) (by have := pop_clr rest hr g (by omega) hb; omega), hD.2.2.2.2.2.1 g last (by omega) hl.1, Nat.add_comm]
      · rw [if_neg hb, trF_f hb]
    have e2 : ∀ n, t 0 3 + n ≤ 6 → fu (trF (t 3) rest last (fun g => trT (t 3) h 5 g (rest - 2 ^ g))) (t 0 3 + n) 99999 = fu (trF (t 3) rest last (fun g => trT (t 3) h 5 g (rest - 2 ^ g))) (t 0 3) 99999 := by
      intro n
      induction n with
      | zero => intro _; rfl
      | succ n ih =>
        intro hn
        show trF _ _ _ _ (t 0 3 + n) (fu _ (t 0 3 + n) 99999) = _
        rw [ih (by omega)]
        rw [trF_f (fun q => by have := (hin _ q).2; omega)]
    have e3 := e2 (6 - t 0 3) (by omega)
    rw [show t 0 3 + (6 - t 0 3) = 6 by omega] at e3
    rw [e1, ← e3, fu_min0 (show 99999 ≤ 1000000000 by decide)]
    have l := trT_le (P := inC t h) (fw := t 3) hs (fun a b ha hb => (inC.d hD hh ha hb).2) 6 last rest hr hl (fun x _ hx => (hin x hx).1)
    rw [trT, if_neg h0] at l
    omega
end RND
section M13r
variable {G : GG} {post : PT} {mi : MI} {ml : ML} {mr : MR} {dom : List Nat} {M : Nat} {t : TW} {v : Nat → Nat}
theorem bit_clN : ∀ n, n < 64 → ∀ i, i < 6 → n.testBit i = true → nI n &&& ((nI 1 <<< (nI i &&& 31)) ^^^ (-1)) = nI (n - 2 ^ i) := by decide +kernel
theorem bit_subN : ∀ s, s < 64 → ∀ a, a < 64 → (nI s &&& (nI a ^^^ (-1)) = 0) = (s ||| a = a) := by
  have h : ∀ s, s < 64 → ∀ a, a < 64 → decide (nI s &&& (nI a ^^^ (-1)) = 0) = decide (s ||| a = a) := by decide +kernel
  intro s hs a ha
  have := h s hs a ha
  rw [decide_eq_decide] at this
  exact propext this
theorem m_goneBy {h set l : Nat} {D : Nat → Nat} (hX : XM mr) (hM : MM M) (hY : XT mr M) (hTn : mr 1000 3 = some M) (hg : GB t) (hW : WT t) (hR : RM mi M t) (hh : h < 6) (hs : set < 64) (hl : l < 6) (hbl : set.testBit l = true) (hDm : ∀ f, (set - 2 ^ l).testBit f = true → mi 1010 (6 * (set - 2 ^ l) + f) = nI (D f) ∧ D f ≤ 99999) (hp : post (some (.int (nI (gbv t h l (set - 2 ^ l) D)))) mi ml mr dom) : CT G 2 0 0 yX13_goneBy cX13_goneBy 7 (some .int) [.ref 1000, .int (nI h), .int (nI set), .int (nI l)] mi ml mr dom post := by
  have w := hW.1
  have hge := hM.ge
  have hpl := Nat.two_pow_pos l
  refine enter 3 (by decide) rfl rfl (fun X => ?_)
  refine j_iload_n dX13_goneBy_0 rfl rfl ?_
  refine j_iconst (v := nI 1) dX13_goneBy_1 (by decide) ?_
  refine j_iload_n dX13_goneBy_2 rfl rfl ?_
  refine j_ishl dX13_goneBy_3 ?_
  refine j_iconst (v := -1) dX13_goneBy_4 (by decide) ?_
  refine j_ixor dX13_goneBy_5 ?_
  refine j_iand dX13_goneBy_6 ?_
  rw [bit_clN set (by omega) l (by omega) hbl]
  refine j_istore (lv2 := [_, _, _, _, _, _, _]) dX13_goneBy_7 (by decide) rfl rfl ?_
  refine j_iload dX13_goneBy_9 rfl ?_
  refine j_if_ne (tgt := 24) dX13_goneBy_11 (by decide) (fun h11 => ?_) (fun h11 => ?_)
  all_goals rw [show (0 : Int32) = nI 0 from rfl, nI_eq (by omega) (by decide)] at h11
  · refine j_ldcw wd1913 dX13_goneBy_24 ?_
    rw [show (99999 : Int32) = nI 99999 from rfl]
    refine j_istore (lv2 := [_, _, _, _, _, _, _]) dX13_goneBy_27 (by decide) rfl rfl ?_
    refine j_iconst (v := nI 0) dX13_goneBy_29 (by decide) ?_
    refine j_istore (lv2 := [_, _, _, _, _, _, _]) dX13_goneBy_30 (by decide) rfl rfl ?_
    refine fl (σ := Nat) (n := t 0 3) (s0 := 99999) (I := fun b => b ≤ 99999) (F := (fun f b => if (set - 2 ^ l).testBit f then min b (D f + t 3 (6 * f + l)) else b)) (H := fun f b => J cX13_goneBy 7 yX13_goneBy.cls yX13_goneBy.name (some .int) 2 G X post 0 0 mi ml mr dom 32 [some (.ref 1000), some (.int (nI h)), some (.int (nI set)), some (.int (nI l)), some (.int (nI (set - 2 ^ l))), some (.int (nI b)), some (.int (nI f))] []) (Nat.le_refl _) (fun f b hb => by show (if _ then _ else _) ≤ _; split; exact Nat.le_trans (Nat.min_le_left _ _) hb; exact hb) (fun f hf b hb9 ih => ?_) ?_
    · skip
      refine j_iload dX13_goneBy_32 rfl ?_
      refine j_aload_n dX13_goneBy_34 rfl rfl ?_
      refine gR13_335 rfl dX13_goneBy_35 hTn ?_
      refine gI13_196 (kM0 hM) dX13_goneBy_38 ?_
      rw [hR.1 3 (by decide)]
      refine j_icmp_ge (tgt := 91) dX13_goneBy_41 (by decide) (fun h41 => by exfalso; rw [nI_leI (by have := hg 0 3; omega) (by omega)] at h41; have := hg 0 3; omega) (fun h41 => ?_)
      refine j_iload dX13_goneBy_44 rfl ?_
      refine j_iload dX13_goneBy_46 rfl ?_
      refine cS13_400 (d1 := 1) dX13_goneBy_48 (by decide) (Nat.le_of_ble_eq_true rfl) ?_
      refine m_bit (by omega) (by omega) ?_
      refine j_if_eq (tgt := 85) dX13_goneBy_51 (by decide) (fun h51 => ?_) (fun h51 => ?_)
      all_goals rw [bN_eq0] at h51
      · refine j_iinc1 (lv2 := [_, _, _, _, _, _, _]) dX13_goneBy_85 rfl (by decide) rfl rfl ?_
        rw [nI_1]
        refine j_goto (tgt := 32) dX13_goneBy_88 (by decide) ?_
        have c1 : (if (set - 2 ^ l).testBit f = true then min b (D f + t 3 (6 * f + l)) else b) = b := if_neg (by rw [h51]; decide)
        rw [c1] at ih
        exact ih
      · refine j_iload dX13_goneBy_54 rfl ?_
        refine j_aload_n dX13_goneBy_56 rfl rfl ?_
        refine gR13_42 rfl dX13_goneBy_57 (x1010 hX) ?_
        refine j_bipush (v := nI 6) dX13_goneBy_60 (by decide) ?_
        refine j_iload dX13_goneBy_62 rfl ?_
        refine j_imul dX13_goneBy_64 ?_
        rw [pk_mul]
        refine j_iload dX13_goneBy_65 rfl ?_
        refine j_iadd dX13_goneBy_67 ?_
        rw [nI_add]
        refine j_iald rfl (inT (show ln 1010 = 384 from rfl) (by show (6 * (set - 2 ^ l)) + f < 384; omega) (by decide)) dX13_goneBy_68 ?_
        rw [nI_clamp (by omega), (hDm f (Bool.not_eq_false _ |>.mp h51)).1]
        refine j_aload_n dX13_goneBy_69 rfl rfl ?_
        refine gR13_335 rfl dX13_goneBy_70 hTn ?_
        refine j_iload dX13_goneBy_73 rfl ?_
        refine j_iload_n dX13_goneBy_75 rfl rfl ?_
        refine cV13_410 (d1 := 1) (kM0 hM) dX13_goneBy_76 (by decide) (Nat.le_of_ble_eq_true rfl) ?_
        refine m_far hM hY hg hW hR (by show f < 6; omega) (by show l < 6; omega) ?_
        refine j_iadd dX13_goneBy_79 ?_
        rw [nI_add]
        refine cS13_349 (d1 := 1) dX13_goneBy_80 (by decide) (Nat.le_of_ble_eq_true rfl) ?_
        refine m_less (by have := hb9; omega) (by have := (hDm f (Bool.not_eq_false _ |>.mp h51)).2; have := hg 3 (6 * f + l); omega) ?_
        refine j_istore (lv2 := [_, _, _, _, _, _, _]) dX13_goneBy_83 (by decide) rfl rfl ?_
        refine j_iinc1 (lv2 := [_, _, _, _, _, _, _]) dX13_goneBy_85 rfl (by decide) rfl rfl ?_
        rw [nI_1]
        refine j_goto (tgt := 32) dX13_goneBy_88 (by decide) ?_
        have c1 : (if (set - 2 ^ l).testBit f = true then min b (D f + t 3 (6 * f + l)) else b) = min b (D f + t 3 (6 * f + l)) := if_pos (Bool.not_eq_false _ |>.mp h51)
        rw [c1] at ih
        exact ih
    · skip
      refine j_iload dX13_goneBy_32 rfl ?_
      refine j_aload_n dX13_goneBy_34 rfl rfl ?_
      refine gR13_335 rfl dX13_goneBy_35 hTn ?_
      refine gI13_196 (kM0 hM) dX13_goneBy_38 ?_
      rw [hR.1 3 (by decide)]
      refine j_icmp_ge (tgt := 91) dX13_goneBy_41 (by decide) (fun h41 => ?_) (fun h41 => by exfalso; rw [nI_leI (by have := hg 0 3; omega) (by have := hg 0 3; omega)] at h41; have := hg 0 3; omega)
      refine j_iload dX13_goneBy_91 rfl ?_
      refine j_iret rfl dX13_goneBy_93 ?_
      unfold gbv at hp
      rw [if_neg h11] at hp
      exact hp
  · refine j_aload_n dX13_goneBy_14 rfl rfl ?_
    refine gR13_335 rfl dX13_goneBy_15 hTn ?_
    refine j_iload_n dX13_goneBy_18 rfl rfl ?_
    refine j_iload_n dX13_goneBy_19 rfl rfl ?_
    refine cV13_410 (d1 := 1) (kM0 hM) dX13_goneBy_20 (by decide) (Nat.le_of_ble_eq_true rfl) ?_
    refine m_far hM hY hg hW hR (by show h < 6; omega) (by show l < 6; omega) ?_
    refine j_iret rfl dX13_goneBy_23 ?_
    unfold gbv at hp
    rw [if_pos h11] at hp
    exact hp
theorem allR_lt (t : TW) (h i : Nat) (hi : i ≤ 6) : allR t h i < 64 := Nat.lt_of_lt_of_le (bst_lt _ _) (Nat.pow_le_pow_right (n := 2) (by decide) hi)
theorem sub_in {s a : Nat} (h : s ||| a = a) (x : Nat) (hx : s.testBit x = true) : a.testBit x = true := by
  rw [← h, Nat.testBit_or, hx]; rfl
theorem mx_roundB {x : Int32} (hX : XM mr) (hM : MM M) (hY : XT mr M) (hTn : mr 1000 3 = some M) (hg : GB t) (hW : WT t) (hR : RM mi M t) (hb : bad x (t 0 3)) (hp : post (some (.int (-1))) (rf mi (nI 1)) ml mr dom) : CT G 3 0 0 yX13_round cX13_round 5 (some .int) [.ref 1000, .int x] mi ml mr dom post := by
  have w := hW.1
  have hge := hM.ge
  refine enter 3 (by decide) rfl rfl (fun X => ?_)
  refine j_aload_n dX13_round_0 rfl rfl ?_
  refine j_iconst (v := nI 0) dX13_round_1 (by decide) ?_
  refine pI13_51 rfl dX13_round_2 ?_
  obtain ⟨m1, e1⟩ : ∃ m, m = up mi 1000 0 (nI 0) := ⟨_, rfl⟩
  rw [← e1]
  have hR1 : RM m1 M t := RM_lo hM (fun n hn => by rw [e1, up_off _ _ (by omega)]) hR
  refine j_aload_n dX13_round_5 rfl rfl ?_
  refine j_iload_n dX13_round_6 rfl rfl ?_
  refine cV13_352 (d1 := 1) rfl dX13_round_7 (by decide) (Nat.le_of_ble_eq_true rfl) ?_
  refine m_isHouseB hX hM hY hTn hg hW hR1 hb ?_
  refine j_if_ne (tgt := 19) dX13_round_10 (by decide) (fun h10 => absurd (by decide) h10) (fun h10 => ?_)
  refine j_aload_n dX13_round_13 rfl rfl ?_
  refine j_iconst (v := nI 1) dX13_round_14 (by decide) ?_
  refine cV13_57 (d1 := 1) rfl dX13_round_15 (by decide) (Nat.le_of_ble_eq_true rfl) ?_
  refine m_refused ?_
  refine j_iret rfl dX13_round_18 ?_
  rw [e1]; exact hp
theorem mx_round {h : Nat} (hX : XM mr) (hM : MM M) (hY : XT mr M) (hTn : mr 1000 3 = some M) (hg : GB t) (hW : WT t) (hR : RM mi M t) (hLT : LT t) (hD : DS 99999 (t 2) (t 3)) (h1 : h < t 0 3) (hp : ∀ m, off1 1010 m (up mi 1000 0 (nI 0)) → post (some (.int (nI (rndC (fun i => cf (t 3 i)) h)))) (up (up m 1000 1 0) 1000 2 (-1)) ml mr dom) : CT G 3 0 0 yX13_round cX13_round 5 (some .int) [.ref 1000, .int (nI h)] mi ml mr dom post := by
  have w := hW.1
  have hge := hM.ge
  refine enter 3 (by decide) rfl rfl (fun X => ?_)
  refine j_aload_n dX13_round_0 rfl rfl ?_
  refine j_iconst (v := nI 0) dX13_round_1 (by decide) ?_
  refine pI13_51 rfl dX13_round_2 ?_
  obtain ⟨m1, e1⟩ : ∃ m, m = up mi 1000 0 (nI 0) := ⟨_, rfl⟩
  rw [← e1]
  have hR1 : RM m1 M t := RM_lo hM (fun n hn => by rw [e1, up_off _ _ (by omega)]) hR
  refine j_aload_n dX13_round_5 rfl rfl ?_
  refine j_iload_n dX13_round_6 rfl rfl ?_
  refine cV13_352 (d1 := 1) rfl dX13_round_7 (by decide) (Nat.le_of_ble_eq_true rfl) ?_
  refine m_isHouseG hX hM hY hTn hg hW hR1 (by omega) ?_
  refine j_if_ne (tgt := 19) dX13_round_10 (by decide) (fun h10 => ?_) (fun h10 => absurd h10 (by decide))
  refine j_iconst (v := nI 0) dX13_round_19 (by decide) ?_
  refine j_istore_n (lv2 := [_, _, _, _, _]) dX13_round_20 rfl (by decide) rfl rfl ?_
  refine j_iconst (v := nI 0) dX13_round_21 (by decide) ?_
  refine j_istore_n (lv2 := [_, _, _, _, _]) dX13_round_22 rfl (by decide) rfl rfl ?_
  have hTb : ∀ g, (allR t h (t 0 3)).testBit g = true → trT (t 3) h 6 g ((allR t h (t 0 3)) - 2 ^ g) ≤ 26880 := fun g hgb => by
    have g6 := bit_lt (allR_lt t h (t 0 3) (show (t 0 3) ≤ 6 by omega)) hgb
    have := trT_le (P := inC t h) (fw := t 3) (self_in hD (by omega)) (fun a b ha hb => (inC.d hD (by omega) ha hb).2) 6 g ((allR t h (t 0 3)) - 2 ^ g) (clr_lt (allR_lt t h (t 0 3) (show (t 0 3) ≤ 6 by omega))) (all_in w.2.2.2.1 hgb).1 (fun x hx hxb => by
      rw [clr_bit (allR t h (t 0 3)) (allR_lt t h (t 0 3) (show (t 0 3) ≤ 6 by omega)) g g6 hgb x hx, Bool.and_eq_true] at hxb
      exact (all_in w.2.2.2.1 hxb.1).1)
    omega
  have keya : ∀ z : Option Value, J cX13_round 5 yX13_round.cls yX13_round.name (some .int) 3 G X post 0 0 m1 ml mr dom 23 [some (.ref 1000), some (.int (nI h)), some (.int (nI (allR t h 0))), some (.int (nI 0)), z] [] := by
    refine lq (n := t 0 3) (H := fun i => ∀ z : Option Value, J cX13_round 5 yX13_round.cls yX13_round.name (some .int) 3 G X post 0 0 m1 ml mr dom 23 [some (.ref 1000), some (.int (nI h)), some (.int (nI (allR t h i))), some (.int (nI i)), z] []) (fun z => ?_) (fun i hi ih z => ?_)
    · skip
      refine j_iload_n dX13_round_23 rfl rfl ?_
      refine j_aload_n dX13_round_24 rfl rfl ?_
      refine gR13_335 rfl dX13_round_25 hTn ?_
      refine gI13_196 (kM0 hM) dX13_round_28 ?_
      rw [hR1.1 3 (by decide)]
      refine j_icmp_ge (tgt := 70) dX13_round_31 (by decide) (fun h31 => ?_) (fun h31 => by exfalso; rw [nI_leI (by have := hg 0 3; omega) (by have := hg 0 3; omega)] at h31; have := hg 0 3; omega)
      refine j_iconst (v := nI 1) dX13_round_70 (by decide) ?_
      refine j_istore_n (lv2 := [_, _, _, _, _]) dX13_round_71 rfl (by decide) rfl rfl ?_
      have keyb : ∀ m : MI, off1 1010 m m1 → (∀ s2 g, s2 < (0 + 1) → s2 ||| (allR t h (t 0 3)) = (allR t h (t 0 3)) → s2.testBit g = true → m 1010 (6 * s2 + g) = nI (trT (t 3) h 6 g (s2 - 2 ^ g))) → ∀ z : Option Value, J cX13_round 5 yX13_round.cls yX13_round.name (some .int) 3 G X post 0 0 m ml mr dom 72 [some (.ref 1000), some (.int (nI h)), some (.int (nI (allR t h (t 0 3)))), some (.int (nI (0 + 1))), z] [] := by
        refine lq (n := (allR t h (t 0 3))) (H := fun i => ∀ m : MI, off1 1010 m m1 → (∀ s2 g, s2 < (i + 1) → s2 ||| (allR t h (t 0 3)) = (allR t h (t 0 3)) → s2.testBit g = true → m 1010 (6 * s2 + g) = nI (trT (t 3) h 6 g (s2 - 2 ^ g))) → ∀ z : Option Value, J cX13_round 5 yX13_round.cls yX13_round.name (some .int) 3 G X post 0 0 m ml mr dom 72 [some (.ref 1000), some (.int (nI h)), some (.int (nI (allR t h (t 0 3)))), some (.int (nI (i + 1))), z] []) (fun m hm hv z => ?_) (fun i hi ih m hm hv z => ?_)
        · have hRm : RM m M t := RM_lo hM (fun n hn => by rw [hm n (by omega)]) hR1
          have hal : (allR t h (t 0 3)) < 64 := allR_lt t h (t 0 3) (show (t 0 3) ≤ 6 by omega)
          refine j_iload_n dX13_round_72 rfl rfl ?_
          refine j_iload_n dX13_round_73 rfl rfl ?_
          refine j_icmp_gt (tgt := 141) dX13_round_74 (by decide) (fun h74 => ?_) (fun h74 => by exfalso; rw [nI_ltI (by have := allR_lt t h (t 0 3) (show (t 0 3) ≤ 6 by omega); omega) (by have := allR_lt t h (t 0 3) (show (t 0 3) ≤ 6 by omega); omega)] at h74; have := allR_lt t h (t 0 3) (show (t 0 3) ≤ 6 by omega); omega)
          refine j_iload_n dX13_round_141 rfl rfl ?_
          refine j_if_ne (tgt := 149) dX13_round_142 (by decide) (fun h142 => ?_) (fun h142 => ?_)
          all_goals rw [show (0 : Int32) = nI 0 from rfl, nI_eq (by have := allR_lt t h (t 0 3) (show (t 0 3) ≤ 6 by omega); omega) (by decide)] at h142
          · refine j_ldcw wd1913 dX13_round_149 ?_
            rw [show (99999 : Int32) = nI 99999 from rfl]
            refine j_istore_n (lv2 := [_, _, _, _, _]) dX13_round_152 rfl (by decide) rfl rfl ?_
            refine j_iconst (v := nI 0) dX13_round_153 (by decide) ?_
            refine j_istore (lv2 := [_, _, _, _, _]) dX13_round_154 (by decide) rfl rfl ?_
            have hfin : rndC (fun i => cf (t 3 i)) h = (fu (fun g b => if (allR t h (t 0 3)).testBit g then min b (trT (t 3) h 6 g ((allR t h (t 0 3)) - 2 ^ g) + t 3 (6 * g + h)) else b) (t 0 3) 99999) := by
              rw [rnd_C hLT hW hD (by omega)]
              have q := gbv_T (h := h) (last := h) (rest := (allR t h (t 0 3))) hD w.2.2.2.1 (by omega) (self_in hD (by omega)) (all_64 w.2.2.2.1) (all_p5 w.2.2.2.1 (by omega)) (fun x hx => ⟨(all_in w.2.2.2.1 hx).1, (all_in w.2.2.2.1 hx).2.2⟩) (fun f hf => rfl)
              rw [← q]
              unfold gbv
              rw [if_neg h142]
            refine fl (σ := Nat) (n := t 0 3) (s0 := 99999) (I := fun b => b ≤ 99999) (F := (fun g b => if (allR t h (t 0 3)).testBit g then min b (trT (t 3) h 6 g ((allR t h (t 0 3)) - 2 ^ g) + t 3 (6 * g + h)) else b)) (H := fun g b => J cX13_round 5 yX13_round.cls yX13_round.name (some .int) 3 G X post 0 0 m ml mr dom 156 [some (.ref 1000), some (.int (nI h)), some (.int (nI (allR t h (t 0 3)))), some (.int (nI b)), some (.int (nI g))] []) (by decide) (fun f b hb => by show (if _ then _ else _) ≤ _; split; exact Nat.le_trans (Nat.min_le_left _ _) hb; exact hb) (fun g hgg b hb9 ih => ?_) ?_
            · skip
              refine j_iload dX13_round_156 rfl ?_
              refine j_aload_n dX13_round_158 rfl rfl ?_
              refine gR13_335 rfl dX13_round_159 hTn ?_
              refine gI13_196 (kM0 hM) dX13_round_162 ?_
              rw [hRm.1 3 (by decide)]
              refine j_icmp_ge (tgt := 211) dX13_round_165 (by decide) (fun h165 => by exfalso; rw [nI_leI (by have := hg 0 3; omega) (by omega)] at h165; have := hg 0 3; omega) (fun h165 => ?_)
              refine j_iload_n dX13_round_168 rfl rfl ?_
              refine j_iload dX13_round_169 rfl ?_
              refine cS13_400 (d1 := 1) dX13_round_171 (by decide) (Nat.le_of_ble_eq_true rfl) ?_
              refine m_bit (by have := allR_lt t h (t 0 3) (show (t 0 3) ≤ 6 by omega); omega) (by omega) ?_
              refine j_if_eq (tgt := 205) dX13_round_174 (by decide) (fun h174 => ?_) (fun h174 => ?_)
              all_goals rw [bN_eq0] at h174
              · refine j_iinc1 (lv2 := [_, _, _, _, _]) dX13_round_205 rfl (by decide) rfl rfl ?_
                rw [nI_1]
                refine j_goto (tgt := 156) dX13_round_208 (by decide) ?_
                have c1 : (if (allR t h (t 0 3)).testBit g = true then min b (trT (t 3) h 6 g ((allR t h (t 0 3)) - 2 ^ g) + t 3 (6 * g + h)) else b) = b := if_neg (by rw [h174]; decide)
                rw [c1] at ih
                exact ih
              · refine j_iload_n dX13_round_177 rfl rfl ?_
                refine j_aload_n dX13_round_178 rfl rfl ?_
                refine gR13_42 rfl dX13_round_179 (x1010 hX) ?_
                refine j_bipush (v := nI 6) dX13_round_182 (by decide) ?_
                refine j_iload_n dX13_round_184 rfl rfl ?_
                refine j_imul dX13_round_185 ?_
                rw [pk_mul]
                refine j_iload dX13_round_186 rfl ?_
                refine j_iadd dX13_round_188 ?_
                rw [nI_add]
                refine j_iald rfl (inT (show ln 1010 = 384 from rfl) (by have := allR_lt t h (t 0 3) (show (t 0 3) ≤ 6 by omega); show (6 * (allR t h (t 0 3))) + g < 384; omega) (by decide)) dX13_round_189 ?_
                rw [nI_clamp (by have := allR_lt t h (t 0 3) (show (t 0 3) ≤ 6 by omega); omega), hv _ g (by omega) (Nat.or_self _) (Bool.not_eq_false _ |>.mp h174)]
                refine j_aload_n dX13_round_190 rfl rfl ?_
                refine gR13_335 rfl dX13_round_191 hTn ?_
                refine j_iload dX13_round_194 rfl ?_
                refine j_iload_n dX13_round_196 rfl rfl ?_
                refine cV13_410 (d1 := 1) (kM0 hM) dX13_round_197 (by decide) (Nat.le_of_ble_eq_true rfl) ?_
                refine m_far hM hY hg hW hRm (by show g < 6; omega) (by show h < 6; omega) ?_
                refine j_iadd dX13_round_200 ?_
                rw [nI_add]
                refine cS13_349 (d1 := 1) dX13_round_201 (by decide) (Nat.le_of_ble_eq_true rfl) ?_
                refine m_less (by have := hb9; omega) (by have := hTb g (Bool.not_eq_false _ |>.mp h174); have := hg 3 (6 * g + h); omega) ?_
                refine j_istore_n (lv2 := [_, _, _, _, _]) dX13_round_204 rfl (by decide) rfl rfl ?_
                refine j_iinc1 (lv2 := [_, _, _, _, _]) dX13_round_205 rfl (by decide) rfl rfl ?_
                rw [nI_1]
                refine j_goto (tgt := 156) dX13_round_208 (by decide) ?_
                have c1 : (if (allR t h (t 0 3)).testBit g = true then min b (trT (t 3) h 6 g ((allR t h (t 0 3)) - 2 ^ g) + t 3 (6 * g + h)) else b) = min b (trT (t 3) h 6 g ((allR t h (t 0 3)) - 2 ^ g) + t 3 (6 * g + h)) := if_pos (Bool.not_eq_false _ |>.mp h174)
                rw [c1] at ih
                exact ih
            · skip
              refine j_iload dX13_round_156 rfl ?_
              refine j_aload_n dX13_round_158 rfl rfl ?_
              refine gR13_335 rfl dX13_round_159 hTn ?_
              refine gI13_196 (kM0 hM) dX13_round_162 ?_
              rw [hRm.1 3 (by decide)]
              refine j_icmp_ge (tgt := 211) dX13_round_165 (by decide) (fun h165 => ?_) (fun h165 => by exfalso; rw [nI_leI (by have := hg 0 3; omega) (by have := hg 0 3; omega)] at h165; have := hg 0 3; omega)
              refine j_aload_n dX13_round_211 rfl rfl ?_
              refine j_iload_n dX13_round_212 rfl rfl ?_
              refine cV13_61 (d1 := 1) rfl dX13_round_213 (by decide) (Nat.le_of_ble_eq_true rfl) ?_
              refine m_fair ?_
              refine j_iret rfl dX13_round_216 ?_
              rw [← hfin]; exact hp m (by rw [← e1]; exact hm)
          · refine j_iconst (v := nI 0) dX13_round_145 (by decide) ?_
            refine j_goto (tgt := 152) dX13_round_146 (by decide) ?_
            refine j_istore_n (lv2 := [_, _, _, _, _]) dX13_round_152 rfl (by decide) rfl rfl ?_
            refine j_iconst (v := nI 0) dX13_round_153 (by decide) ?_
            refine j_istore (lv2 := [_, _, _, _, _]) dX13_round_154 (by decide) rfl rfl ?_
            have hfin : rndC (fun i => cf (t 3 i)) h = (fu (fun g b => if (allR t h (t 0 3)).testBit g then min b (trT (t 3) h 6 g ((allR t h (t 0 3)) - 2 ^ g) + t 3 (6 * g + h)) else b) (t 0 3) 0) := by
              rw [rnd_C hLT hW hD (by omega)]
              have q := gbv_T (h := h) (last := h) (rest := (allR t h (t 0 3))) hD w.2.2.2.1 (by omega) (self_in hD (by omega)) (all_64 w.2.2.2.1) (all_p5 w.2.2.2.1 (by omega)) (fun x hx => ⟨(all_in w.2.2.2.1 hx).1, (all_in w.2.2.2.1 hx).2.2⟩) (fun f hf => rfl)
              rw [← q]
              unfold gbv
              rw [if_pos h142, hD.1 h (by omega)]
              have : ∀ n, fu (fun g b => if (allR t h (t 0 3)).testBit g then min b (trT (t 3) h 6 g ((allR t h (t 0 3)) - 2 ^ g) + t 3 (6 * g + h)) else b) n 0 = 0 := by
                intro n
                induction n with
                | zero => rfl
                | succ n ihn =>
                  show (if _ then _ else _) = 0
                  rw [ihn]; split <;> simp
              exact (this _).symm
            refine fl (σ := Nat) (n := t 0 3) (s0 := 0) (I := fun b => b ≤ 99999) (F := (fun g b => if (allR t h (t 0 3)).testBit g then min b (trT (t 3) h 6 g ((allR t h (t 0 3)) - 2 ^ g) + t 3 (6 * g + h)) else b)) (H := fun g b => J cX13_round 5 yX13_round.cls yX13_round.name (some .int) 3 G X post 0 0 m ml mr dom 156 [some (.ref 1000), some (.int (nI h)), some (.int (nI (allR t h (t 0 3)))), some (.int (nI b)), some (.int (nI g))] []) (by decide) (fun f b hb => by show (if _ then _ else _) ≤ _; split; exact Nat.le_trans (Nat.min_le_left _ _) hb; exact hb) (fun g hgg b hb9 ih => ?_) ?_
            · skip
              refine j_iload dX13_round_156 rfl ?_
              refine j_aload_n dX13_round_158 rfl rfl ?_
              refine gR13_335 rfl dX13_round_159 hTn ?_
              refine gI13_196 (kM0 hM) dX13_round_162 ?_
              rw [hRm.1 3 (by decide)]
              refine j_icmp_ge (tgt := 211) dX13_round_165 (by decide) (fun h165 => by exfalso; rw [nI_leI (by have := hg 0 3; omega) (by omega)] at h165; have := hg 0 3; omega) (fun h165 => ?_)
              refine j_iload_n dX13_round_168 rfl rfl ?_
              refine j_iload dX13_round_169 rfl ?_
              refine cS13_400 (d1 := 1) dX13_round_171 (by decide) (Nat.le_of_ble_eq_true rfl) ?_
              refine m_bit (by have := allR_lt t h (t 0 3) (show (t 0 3) ≤ 6 by omega); omega) (by omega) ?_
              refine j_if_eq (tgt := 205) dX13_round_174 (by decide) (fun h174 => ?_) (fun h174 => ?_)
              all_goals rw [bN_eq0] at h174
              · refine j_iinc1 (lv2 := [_, _, _, _, _]) dX13_round_205 rfl (by decide) rfl rfl ?_
                rw [nI_1]
                refine j_goto (tgt := 156) dX13_round_208 (by decide) ?_
                have c1 : (if (allR t h (t 0 3)).testBit g = true then min b (trT (t 3) h 6 g ((allR t h (t 0 3)) - 2 ^ g) + t 3 (6 * g + h)) else b) = b := if_neg (by rw [h174]; decide)
                rw [c1] at ih
                exact ih
              · refine j_iload_n dX13_round_177 rfl rfl ?_
                refine j_aload_n dX13_round_178 rfl rfl ?_
                refine gR13_42 rfl dX13_round_179 (x1010 hX) ?_
                refine j_bipush (v := nI 6) dX13_round_182 (by decide) ?_
                refine j_iload_n dX13_round_184 rfl rfl ?_
                refine j_imul dX13_round_185 ?_
                rw [pk_mul]
                refine j_iload dX13_round_186 rfl ?_
                refine j_iadd dX13_round_188 ?_
                rw [nI_add]
                refine j_iald rfl (inT (show ln 1010 = 384 from rfl) (by have := allR_lt t h (t 0 3) (show (t 0 3) ≤ 6 by omega); show (6 * (allR t h (t 0 3))) + g < 384; omega) (by decide)) dX13_round_189 ?_
                rw [nI_clamp (by have := allR_lt t h (t 0 3) (show (t 0 3) ≤ 6 by omega); omega), hv _ g (by omega) (Nat.or_self _) (Bool.not_eq_false _ |>.mp h174)]
                refine j_aload_n dX13_round_190 rfl rfl ?_
                refine gR13_335 rfl dX13_round_191 hTn ?_
                refine j_iload dX13_round_194 rfl ?_
                refine j_iload_n dX13_round_196 rfl rfl ?_
                refine cV13_410 (d1 := 1) (kM0 hM) dX13_round_197 (by decide) (Nat.le_of_ble_eq_true rfl) ?_
                refine m_far hM hY hg hW hRm (by show g < 6; omega) (by show h < 6; omega) ?_
                refine j_iadd dX13_round_200 ?_
                rw [nI_add]
                refine cS13_349 (d1 := 1) dX13_round_201 (by decide) (Nat.le_of_ble_eq_true rfl) ?_
                refine m_less (by have := hb9; omega) (by have := hTb g (Bool.not_eq_false _ |>.mp h174); have := hg 3 (6 * g + h); omega) ?_
                refine j_istore_n (lv2 := [_, _, _, _, _]) dX13_round_204 rfl (by decide) rfl rfl ?_
                refine j_iinc1 (lv2 := [_, _, _, _, _]) dX13_round_205 rfl (by decide) rfl rfl ?_
                rw [nI_1]
                refine j_goto (tgt := 156) dX13_round_208 (by decide) ?_
                have c1 : (if (allR t h (t 0 3)).testBit g = true then min b (trT (t 3) h 6 g ((allR t h (t 0 3)) - 2 ^ g) + t 3 (6 * g + h)) else b) = min b (trT (t 3) h 6 g ((allR t h (t 0 3)) - 2 ^ g) + t 3 (6 * g + h)) := if_pos (Bool.not_eq_false _ |>.mp h174)
                rw [c1] at ih
                exact ih
            · skip
              refine j_iload dX13_round_156 rfl ?_
              refine j_aload_n dX13_round_158 rfl rfl ?_
              refine gR13_335 rfl dX13_round_159 hTn ?_
              refine gI13_196 (kM0 hM) dX13_round_162 ?_
              rw [hRm.1 3 (by decide)]
              refine j_icmp_ge (tgt := 211) dX13_round_165 (by decide) (fun h165 => ?_) (fun h165 => by exfalso; rw [nI_leI (by have := hg 0 3; omega) (by have := hg 0 3; omega)] at h165; have := hg 0 3; omega)
              refine j_aload_n dX13_round_211 rfl rfl ?_
              refine j_iload_n dX13_round_212 rfl rfl ?_
              refine cV13_61 (d1 := 1) rfl dX13_round_213 (by decide) (Nat.le_of_ble_eq_true rfl) ?_
              refine m_fair ?_
              refine j_iret rfl dX13_round_216 ?_
              rw [← hfin]; exact hp m (by rw [← e1]; exact hm)
        · have hRm : RM m M t := RM_lo hM (fun n hn => by rw [hm n (by omega)]) hR1
          have hal : (allR t h (t 0 3)) < 64 := allR_lt t h (t 0 3) (show (t 0 3) ≤ 6 by omega)
          refine j_iload_n dX13_round_72 rfl rfl ?_
          refine j_iload_n dX13_round_73 rfl rfl ?_
          refine j_icmp_gt (tgt := 141) dX13_round_74 (by decide) (fun h74 => by exfalso; rw [nI_ltI (by have := allR_lt t h (t 0 3) (show (t 0 3) ≤ 6 by omega); omega) (by omega)] at h74; have := allR_lt t h (t 0 3) (show (t 0 3) ≤ 6 by omega); omega) (fun h74 => ?_)
          refine j_iconst (v := nI 0) dX13_round_77 (by decide) ?_
          refine j_istore (lv2 := [_, _, _, _, _]) dX13_round_78 (by decide) rfl rfl ?_
          have keyc : ∀ m : MI, off1 1010 m m1 → (∀ s2 g, s2 < (i + 1) → s2 ||| (allR t h (t 0 3)) = (allR t h (t 0 3)) → s2.testBit g = true → m 1010 (6 * s2 + g) = nI (trT (t 3) h 6 g (s2 - 2 ^ g))) → ((i + 1) ||| (allR t h (t 0 3)) = (allR t h (t 0 3)) → ∀ x, x < 0 → (i + 1).testBit x = true → m 1010 (6 * (i + 1) + x) = nI (trT (t 3) h 6 x ((i + 1) - 2 ^ x))) → J cX13_round 5 yX13_round.cls yX13_round.name (some .int) 3 G X post 0 0 m ml mr dom 80 [some (.ref 1000), some (.int (nI h)), some (.int (nI (allR t h (t 0 3)))), some (.int (nI (i + 1))), some (.int (nI 0))] [] := by
            refine lq (n := t 0 3) (H := fun g => ∀ m : MI, off1 1010 m m1 → (∀ s2 g, s2 < (i + 1) → s2 ||| (allR t h (t 0 3)) = (allR t h (t 0 3)) → s2.testBit g = true → m 1010 (6 * s2 + g) = nI (trT (t 3) h 6 g (s2 - 2 ^ g))) → ((i + 1) ||| (allR t h (t 0 3)) = (allR t h (t 0 3)) → ∀ x, x < g → (i + 1).testBit x = true → m 1010 (6 * (i + 1) + x) = nI (trT (t 3) h 6 x ((i + 1) - 2 ^ x))) → J cX13_round 5 yX13_round.cls yX13_round.name (some .int) 3 G X post 0 0 m ml mr dom 80 [some (.ref 1000), some (.int (nI h)), some (.int (nI (allR t h (t 0 3)))), some (.int (nI (i + 1))), some (.int (nI g))] []) (fun m hm hv hu => ?_) (fun g hgg ihg m hm hv hu => ?_)
            · have hRm : RM m M t := RM_lo hM (fun n hn => by rw [hm n (by omega)]) hR1
              refine j_iload dX13_round_80 rfl ?_
              refine j_aload_n dX13_round_82 rfl rfl ?_
              refine gR13_335 rfl dX13_round_83 hTn ?_
              refine gI13_196 (kM0 hM) dX13_round_86 ?_
              rw [hRm.1 3 (by decide)]
              refine j_icmp_ge (tgt := 135) dX13_round_89 (by decide) (fun h89 => ?_) (fun h89 => by exfalso; rw [nI_leI (by have := hg 0 3; omega) (by have := hg 0 3; omega)] at h89; have := hg 0 3; omega)
              refine j_iinc1 (lv2 := [_, _, _, _, _]) dX13_round_135 rfl (by decide) rfl rfl ?_
              rw [nI_1]
              refine j_goto (tgt := 72) dX13_round_138 (by decide) ?_
              exact ih m hm (fun s2 x q1 q2 q3 => by
                by_cases e : s2 = i + 1
                · subst e; exact hu q2 x (by have := (all_in w.2.2.2.1 (sub_in q2 x q3)).2.2; omega) q3
                · exact hv s2 x (by omega) q2 q3) _
            · have hRm : RM m M t := RM_lo hM (fun n hn => by rw [hm n (by omega)]) hR1
              refine j_iload dX13_round_80 rfl ?_
              refine j_aload_n dX13_round_82 rfl rfl ?_
              refine gR13_335 rfl dX13_round_83 hTn ?_
              refine gI13_196 (kM0 hM) dX13_round_86 ?_
              rw [hRm.1 3 (by decide)]
              refine j_icmp_ge (tgt := 135) dX13_round_89 (by decide) (fun h89 => by exfalso; rw [nI_leI (by have := hg 0 3; omega) (by omega)] at h89; have := hg 0 3; omega) (fun h89 => ?_)
              refine j_iload_n dX13_round_92 rfl rfl ?_
              refine j_iload_n dX13_round_93 rfl rfl ?_
              refine j_iconst (v := -1) dX13_round_94 (by decide) ?_
              refine j_ixor dX13_round_95 ?_
              refine j_iand dX13_round_96 ?_
              refine j_if_ne (tgt := 129) dX13_round_97 (by decide) (fun h97 => ?_) (fun h97 => ?_)
              all_goals rw [bit_subN _ (by omega) _ (by have := allR_lt t h (t 0 3) (show (t 0 3) ≤ 6 by omega); omega)] at h97
              · refine j_iinc1 (lv2 := [_, _, _, _, _]) dX13_round_129 rfl (by decide) rfl rfl ?_
                rw [nI_1]
                refine j_goto (tgt := 80) dX13_round_132 (by decide) ?_
                refine ihg m hm hv (fun q x hx hxb => ?_)
                by_cases e : x = g
                · subst e; exfalso; first | exact h97 q | (rw [hxb] at h106; cases h106)
                · exact hu q x (by omega) hxb
              · refine j_iload_n dX13_round_100 rfl rfl ?_
                refine j_iload dX13_round_101 rfl ?_
                refine cS13_400 (d1 := 1) dX13_round_103 (by decide) (Nat.le_of_ble_eq_true rfl) ?_
                refine m_bit (by omega) (by omega) ?_
                refine j_if_eq (tgt := 129) dX13_round_106 (by decide) (fun h106 => ?_) (fun h106 => ?_)
                all_goals rw [bN_eq0] at h106
                · refine j_iinc1 (lv2 := [_, _, _, _, _]) dX13_round_129 rfl (by decide) rfl rfl ?_
                  rw [nI_1]
                  refine j_goto (tgt := 80) dX13_round_132 (by decide) ?_
                  refine ihg m hm hv (fun q x hx hxb => ?_)
                  by_cases e : x = g
                  · subst e; exfalso; first | exact h97 q | (rw [hxb] at h106; cases h106)
                  · exact hu q x (by omega) hxb
                · refine j_aload_n dX13_round_109 rfl rfl ?_
                  refine gR13_42 rfl dX13_round_110 (x1010 hX) ?_
                  refine j_bipush (v := nI 6) dX13_round_113 (by decide) ?_
                  refine j_iload_n dX13_round_115 rfl rfl ?_
                  refine j_imul dX13_round_116 ?_
                  rw [pk_mul]
                  refine j_iload dX13_round_117 rfl ?_
                  refine j_iadd dX13_round_119 ?_
                  rw [nI_add]
                  refine j_aload_n dX13_round_120 rfl rfl ?_
                  refine j_iload_n dX13_round_121 rfl rfl ?_
                  refine j_iload_n dX13_round_122 rfl rfl ?_
                  refine j_iload dX13_round_123 rfl ?_
                  refine cV13_443 (d1 := 2) rfl dX13_round_125 (by decide) (Nat.le_of_ble_eq_true rfl) ?_
                  have hbg := Bool.not_eq_false _ |>.mp h106
                  have hrs : ∀ x, ((i + 1) - 2 ^ g).testBit x = true → x < 6 ∧ x ≠ g ∧ (i + 1).testBit x = true := fun x hx => by
                    have x6 := bit_lt (clr_lt (show i + 1 < 64 by omega)) hx
                    rw [clr_bit (i + 1) (by omega) g (by omega) hbg x x6, Bool.and_eq_true, decide_eq_true_eq] at hx
                    exact ⟨x6, hx.2, hx.1⟩
                  have hsb := sub_in h97
                  have hrp : popc ((i + 1) - 2 ^ g) ≤ 5 := by have := pop_clr (i + 1) (by omega) g (by omega) hbg; have := popc_6 (i + 1) (by omega); omega
                  have hgi := (all_in w.2.2.2.1 (hsb g hbg)).1
                  have hge2 : 2 ^ g ≤ i + 1 := Nat.ge_two_pow_of_testBit hbg
                  have hpg := Nat.two_pow_pos g
                  have hin : ∀ x, ((i + 1) - 2 ^ g).testBit x = true → inC t h x ∧ x < t 0 3 := fun x hx => by
                    have q := all_in w.2.2.2.1 (hsb x (hrs x hx).2.2)
                    exact ⟨q.1, q.2.2⟩
                  refine m_goneBy (D := fun f => trT (t 3) h 6 f ((i + 1) - 2 ^ g - 2 ^ f)) hX hM hY hTn hg hW hRm (by omega) (by omega) (by omega) hbg (fun f hf => ⟨hv _ f (by omega) ?_ hf, ?_⟩) ?_
                  · refine Nat.eq_of_testBit_eq fun x => ?_
                    rw [Nat.testBit_or]
                    cases q : ((i + 1) - 2 ^ g).testBit x
                    · rfl
                    · rw [hsb x (hrs x q).2.2]; rfl
                  · have := trT_le (P := inC t h) (fw := t 3) (self_in hD (by omega)) (fun a b ha hb => (inC.d hD (by omega) ha hb).2) 6 f ((i + 1) - 2 ^ g - 2 ^ f) (clr_lt (clr_lt (by omega))) (hin f hf).1 (fun x hx hxb => by
                      rw [clr_bit ((i + 1) - 2 ^ g) (by omega) f (hrs f hf).1 hf x hx, Bool.and_eq_true] at hxb
                      exact (hin x hxb.1).1)
                    omega
                  rw [gbv_T hD w.2.2.2.1 (by omega) hgi (by omega) hrp hin (fun f hf => rfl)]
                  refine j_iast rfl (inT (show ln 1010 = 384 from rfl) (by show (6 * (i + 1)) + g < 384; omega) (by decide)) dX13_round_128 ?_
                  rw [nI_clamp (by omega)]
                  refine j_iinc1 (lv2 := [_, _, _, _, _]) dX13_round_129 rfl (by decide) rfl rfl ?_
                  rw [nI_1]
                  refine j_goto (tgt := 80) dX13_round_132 (by decide) ?_
                  refine ihg _ (fun z hz => by rw [up_off _ _ hz]; exact hm z hz) (fun s2 x q1 q2 q3 => ?_) (fun q x hx hxb => ?_)
                  · rw [up_ne _ _ (by have := bit_lt (show s2 < 64 by omega) q3; omega)]; exact hv s2 x q1 q2 q3
                  · by_cases e : x = g
                    · subst e; rw [up_at]
                    · rw [up_ne _ _ (by omega)]; exact hu q x (by omega) hxb
          exact keyc m hm hv (fun q x hx => absurd hx (by omega))
      exact keyb m1 (fun _ _ => rfl) (fun s2 g q1 q2 q3 => by
        rw [show s2 = 0 by omega] at q3; simp at q3) _
    · skip
      refine j_iload_n dX13_round_23 rfl rfl ?_
      refine j_aload_n dX13_round_24 rfl rfl ?_
      refine gR13_335 rfl dX13_round_25 hTn ?_
      refine gI13_196 (kM0 hM) dX13_round_28 ?_
      rw [hR1.1 3 (by decide)]
      refine j_icmp_ge (tgt := 70) dX13_round_31 (by decide) (fun h31 => by exfalso; rw [nI_leI (by have := hg 0 3; omega) (by omega)] at h31; have := hg 0 3; omega) (fun h31 => ?_)
      refine j_iload_n dX13_round_34 rfl rfl ?_
      refine j_iload_n dX13_round_35 rfl rfl ?_
      refine j_iload_n dX13_round_36 rfl rfl ?_
      refine j_icmp_eq (tgt := 61) dX13_round_37 (by decide) (fun h37 => ?_) (fun h37 => ?_)
      all_goals rw [nI_eq (by omega) (by omega)] at h37
      · refine j_iconst (v := nI 0) dX13_round_61 (by decide) ?_
        refine j_ior dX13_round_62 ?_
        rw [or_0]
        refine j_istore_n (lv2 := [_, _, _, _, _]) dX13_round_63 rfl (by decide) rfl rfl ?_
        refine j_iinc1 (lv2 := [_, _, _, _, _]) dX13_round_64 rfl (by decide) rfl rfl ?_
        rw [nI_1]
        refine j_goto (tgt := 23) dX13_round_67 (by decide) ?_
        have c1 : allR t h (i + 1) = allR t h i := if_neg (fun q => by
          rw [Bool.and_eq_true, decide_eq_true_eq, decide_eq_true_eq] at q; omega)
        rw [c1] at ih
        exact ih _
      · refine j_aload_n dX13_round_40 rfl rfl ?_
        refine gR13_335 rfl dX13_round_41 hTn ?_
        refine j_iload_n dX13_round_44 rfl rfl ?_
        refine j_iload_n dX13_round_45 rfl rfl ?_
        refine cV13_410 (d1 := 1) (kM0 hM) dX13_round_46 (by decide) (Nat.le_of_ble_eq_true rfl) ?_
        refine m_far hM hY hg hW hR1 (by show h < 6; omega) (by show i < 6; omega) ?_
        refine j_ldcw wd1913 dX13_round_49 ?_
        rw [show (99999 : Int32) = nI 99999 from rfl]
        refine j_icmp_ge (tgt := 61) dX13_round_52 (by decide) (fun h52 => ?_) (fun h52 => ?_)
        all_goals rw [nI_leI (by omega) (by have := hg 3 (6 * h + i); omega)] at h52
        · refine j_iconst (v := nI 0) dX13_round_61 (by decide) ?_
          refine j_ior dX13_round_62 ?_
          rw [or_0]
          refine j_istore_n (lv2 := [_, _, _, _, _]) dX13_round_63 rfl (by decide) rfl rfl ?_
          refine j_iinc1 (lv2 := [_, _, _, _, _]) dX13_round_64 rfl (by decide) rfl rfl ?_
          rw [nI_1]
          refine j_goto (tgt := 23) dX13_round_67 (by decide) ?_
          have c1 : allR t h (i + 1) = allR t h i := if_neg (fun q => by
            rw [Bool.and_eq_true, decide_eq_true_eq, decide_eq_true_eq] at q; omega)
          rw [c1] at ih
          exact ih _
        · refine j_iconst (v := nI 1) dX13_round_55 (by decide) ?_
          refine j_iload_n dX13_round_56 rfl rfl ?_
          refine j_ishl dX13_round_57 ?_
          refine j_goto (tgt := 62) dX13_round_58 (by decide) ?_
          refine j_ior dX13_round_62 ?_
          rw [bit_or _ (by have := allR_lt t h i (show i ≤ 6 by omega); show allR t h i < 256; omega) _ (by show i < 8; omega)]
          refine j_istore_n (lv2 := [_, _, _, _, _]) dX13_round_63 rfl (by decide) rfl rfl ?_
          refine j_iinc1 (lv2 := [_, _, _, _, _]) dX13_round_64 rfl (by decide) rfl rfl ?_
          rw [nI_1]
          refine j_goto (tgt := 23) dX13_round_67 (by decide) ?_
          have c1 : allR t h (i + 1) = allR t h i ||| 2 ^ i := if_pos (by show (decide (i ≠ h) && decide (t 3 (6 * h + i) < 99999)) = true; rw [decide_eq_true (show i ≠ h by omega), decide_eq_true (show t 3 (6 * h + i) < 99999 by omega)]; rfl)
          rw [c1] at ih
          exact ih _
  exact keya none
end M13r
