/-! PURE: who carries what, class and reference -/
section ASG
variable {t : TW} {v : Nat → Nat}
def tmP (t : TW) (v b : Nat → Nat) (g : Nat) : Nat := fu (fun p c => max c (tk t v p (ldB t v b g p))) (t 0 5) 0
theorem tmB_P (b : Nat → Nat) : tmB t v b = tmP t v b (t 0 6) := rfl
theorem fu_max_le {f : Nat → Nat} {x : Nat} : ∀ n, (∀ p, p < n → f p ≤ x) → fu (fun p c => max c (f p)) n 0 ≤ x
  | 0, _ => Nat.zero_le _
  | n + 1, h => by
    show max (fu (fun p c => max c (f p)) n 0) (f n) ≤ x
    have := fu_max_le n (fun p hp => h p (by omega))
    have := h n (by omega)
    omega
theorem fu_max_ge {f : Nat → Nat} {p : Nat} : ∀ n, p < n → f p ≤ fu (fun p c => max c (f p)) n 0
  | 0, h => absurd h (Nat.not_lt_zero _)
  | n + 1, h => by
    show f p ≤ max (fu (fun p c => max c (f p)) n 0) (f n)
    by_cases e : p = n
    · subst e; omega
    · have := fu_max_ge (f := f) n (show p < n by omega); omega
theorem ldB_bit (b : Nat → Nat) (g p x : Nat) : (ldB t v b g p).testBit x = (decide (x < g) && (mgo t v x && decide (b x = p))) := bst_bit _ g x
theorem ldB_ok (h5 : t 0 6 ≤ 5) (b : Nat → Nat) {g : Nat} (hg : g ≤ t 0 6) (p : Nat) : okM t v (ldB t v b g p) := ⟨ldB_32 b p (by omega), fun x hx => by
  rw [ldB_bit, Bool.and_eq_true, Bool.and_eq_true, decide_eq_true_eq, decide_eq_true_eq] at hx
  exact ⟨by omega, hx.2.1⟩⟩
theorem ldB_cg {b b' : Nat → Nat} {g p : Nat} (h : ∀ j, j < g → b j = b' j) : ldB t v b g p = ldB t v b' g p := by
  refine Nat.eq_of_testBit_eq fun x => ?_
  rw [ldB_bit, ldB_bit]
  by_cases q : x < g
  · rw [h x q]
  · rw [decide_eq_false q]; rfl
/-- nothing is sooner: the search keeps what it has -/
theorem en_keep : ∀ n g b (S : SB), g + n = t 0 6 → (∀ j, j < g → mgo t v j = true → b j < t 0 5) → (∀ b', okB t v b' → (∀ j, j < g → b' j = b j) → S.1 ≤ tmB t v b') → enT t v n g b S = S := by
  intro n
  induction n with
  | zero =>
    intro g b S hg hb h
    have := h b (fun j hj hm => hb j (by omega) hm) (fun _ _ => rfl)
    rw [enT]; unfold evB; rw [if_neg (by omega)]
  | succ n ih =>
    intro g b S hg hb h
    rw [enT]
    split
    · next hm =>
      have key : ∀ k, k ≤ t 0 5 → fu (fun p S => enT t v n (g + 1) (upN b g p) S) k S = S := by
        intro k
        induction k with
        | zero => intro _; rfl
        | succ k ihk =>
          intro hk
          show enT t v n (g + 1) (upN b g k) (fu (fun p S => enT t v n (g + 1) (upN b g p) S) k S) = S
          rw [ihk (by omega)]
          refine ih (g + 1) (upN b g k) S (by omega) (fun j hj hmj => ?_) (fun b' hb' e => h b' hb' (fun j hj => by rw [e j (by omega), upN_ne _ (by omega)]))
          by_cases q : j = g
          · subst q; rw [upN_at]; omega
          · rw [upN_ne _ q]; exact hb j (by omega) hmj
      exact key (t 0 5) (Nat.le_refl _)
    · refine ih (g + 1) b S (by omega) (fun j hj hmj => ?_) (fun b' hb' e => h b' hb' (fun j hj => e j (by omega)))
      by_cases q : j = g
      · subst q; next hm => exact absurd hmj hm
      · exact hb j (by omega) hmj
variable (hW : WT t) (hD : DS 99999 (t 2) (t 3)) (hv : ∀ g, g < t 0 6 → v (6 + g) < t 0 3)
theorem tmP_le (hW : WT t) (hD : DS 99999 (t 2) (t 3)) (hv : ∀ g, g < t 0 6 → v (6 + g) < t 0 3) {b b' : Nat → Nat} {g : Nat} (hg : g ≤ t 0 6) (e : ∀ j, j < g → b' j = b j) : tmP t v b g ≤ tmB t v b' := by
  have h5 := hW.1.2.2.2.2.2.2.1
  refine fu_max_le _ (fun p hp => ?_)
  refine Nat.le_trans (tk_mono hW hD hv hp (S := ldB t v b' (t 0 6) p) (ldB_ok h5 b' (Nat.le_refl _) p) (ldB_32 b p (by omega)) (fun x hx hb => ?_)) (fu_max_ge (f := fun p => tk t v p (ldB t v b' (t 0 6) p)) (t 0 5) hp)
  rw [ldB_bit, Bool.and_eq_true, Bool.and_eq_true, decide_eq_true_eq, decide_eq_true_eq] at hb
  rw [ldB_bit, decide_eq_true (show x < t 0 6 by omega), hb.2.1, e x hb.1, decide_eq_true hb.2.2]; rfl
theorem bnd_le (hW : WT t) (hD : DS 99999 (t 2) (t 3)) (hv : ∀ g, g < t 0 6 → v (6 + g) < t 0 3) {W0 b' : Nat → Nat} (hb : okB t v b') (hlt : tmB t v b' < 99999) : bnd t v (wAll t (FWc t) v W0) ≤ tmB t v b' := by
  have h5 := hW.1.2.2.2.2.2.2.1
  have key : ∀ n, n ≤ t 0 6 → fu (bndF t v (wAll t (FWc t) v W0)) n 0 ≤ tmB t v b' := by
    intro n
    induction n with
    | zero => intro _; exact Nat.zero_le _
    | succ n ih =>
      intro hn
      have i1 := ih (by omega)
      show (if mgo t v n = true then max (fu (bndF t v (wAll t (FWc t) v W0)) n 0) (qk (wAll t (FWc t) v W0) n (t 0 5)) else fu (bndF t v (wAll t (FWc t) v W0)) n 0) ≤ _
      by_cases hm : mgo t v n = true
      · rw [if_pos hm]
        have hp := hb n (by omega) hm
        have b1 : ∀ x, (2 ^ n).testBit x = true → x = n := fun x hx => by rw [Nat.testBit_two_pow, decide_eq_true_eq] at hx; exact hx.symm
        have h32 : 2 ^ n < 32 := (Nat.pow_lt_pow_right (show 1 < 2 by decide) (show n < 5 by omega) : 2 ^ n < 2 ^ 5)
        have hS : okM t v (2 ^ n) := ⟨h32, fun x hx => by rw [b1 x hx]; exact ⟨by omega, hm⟩⟩
        have e1 := WA_tk hW hD hv hp (W := W0) hS (Or.inl (by have := Nat.two_pow_pos n; omega))
        have e2 := tk_mono hW hD hv hp (S := ldB t v b' (t 0 6) (b' n)) (ldB_ok h5 b' (Nat.le_refl _) _) h32 (fun x hx hxb => by
          rw [b1 x hxb, ldB_bit, decide_eq_true (show n < t 0 6 by omega), hm, decide_eq_true rfl]; rfl)
        have e3 := fu_max_ge (f := fun p => tk t v p (ldB t v b' (t 0 6) p)) (t 0 5) hp
        have e3 : tk t v (b' n) (ldB t v b' (t 0 6) (b' n)) ≤ tmB t v b' := e3
        have e4 : qk (wAll t (FWc t) v W0) n (t 0 5) ≤ wAll t (FWc t) v W0 (32 * b' n + 2 ^ n) := fu_hit (F := fun p b => min b (wAll t (FWc t) v W0 (32 * p + 2 ^ n))) (fun p b => Nat.min_le_left _ _) (k := b' n) (fun b => Nat.min_le_right _ _) (t 0 5) _ hp
        rw [e1, cf_lt (by omega)] at e4
        omega
      · rw [if_neg hm]; exact i1
  exact key (t 0 6) (Nat.le_refl _)
def rbB (t : TW) (v : Nat → Nat) (be : Nat → Int32) (S : SB) : Prop := S.1 = 99999 ∨ ∀ j, j < t 0 6 → be j = if mgo t v j then nI (S.2 j) else -2
def trB (t : TW) (v : Nat → Nat) (tr : Nat → Int32) (b : Nat → Nat) (g : Nat) : Prop := ∀ j, j < g → tr j = if mgo t v j then nI (b j) else -2
theorem cf_lt2 {x y : Nat} (hy : y < 99999) (h : y < cf x) : y < x := by
  by_cases q : x < 99999
  · rw [cf_lt q] at h; exact h
  · omega
theorem cf_le2 {x y : Nat} (hx : x ≤ 99999) (hy : y < 99999) (h : cf x ≤ y) : x ≤ y := by
  by_cases q : x < 99999
  · rw [cf_lt q] at h; exact h
  · rw [cf_ge q] at h; omega
theorem tg_en (hW : WT t) (hD : DS 99999 (t 2) (t 3)) (hv : ∀ g, g < t 0 6 → v (6 + g) < t 0 3) {W0 : Nat → Nat} : ∀ n g la (S : S4) b (E : SB), g + n = t 0 6 → (∀ j, j < g → mgo t v j = true → b j < t 0 5) → (∀ p, p < t 0 5 → S.2.2.2 p = ldB t v b g p) → la = tmP t v b g → la < 99999 → trB t v S.2.1 b g → S.1 = cf E.1 → E.1 ≤ 99999 → rbB t v S.2.2.1 E →
    (tg t v (wAll t (FWc t) v W0) (bnd t v (wAll t (FWc t) v W0)) n g la S).1 = cf (enT t v n g b E).1 ∧ (enT t v n g b E).1 ≤ 99999 ∧ rbB t v (tg t v (wAll t (FWc t) v W0) (bnd t v (wAll t (FWc t) v W0)) n g la S).2.2.1 (enT t v n g b E) ∧ (tg t v (wAll t (FWc t) v W0) (bnd t v (wAll t (FWc t) v W0)) n g la S).2.2.2 = S.2.2.2 ∧ ∀ j, j < g → (tg t v (wAll t (FWc t) v W0) (bnd t v (wAll t (FWc t) v W0)) n g la S).2.1 j = S.2.1 j := by
  have h5 := hW.1.2.2.2.2.2.2.1
  -- pruned
  have prn : ∀ n g la (S : S4) b (E : SB), g + n = t 0 6 → (∀ j, j < g → mgo t v j = true → b j < t 0 5) → la = tmP t v b g → la < 99999 → S.1 = cf E.1 → E.1 ≤ 99999 → (S.1 ≤ la ∨ S.1 ≤ bnd t v (wAll t (FWc t) v W0)) → enT t v n g b E = E := by
    intro n g la S b E hg hb hla hl9 hS hE hpr
    refine en_keep n g b E hg hb (fun b' hb' e => ?_)
    by_cases q : tmB t v b' < 99999
    · rcases hpr with h | h
      · have := tmP_le hW hD hv (show g ≤ t 0 6 by omega) e
        have := cf_le2 hE hl9 (by omega : cf E.1 ≤ la)
        omega
      · have := bnd_le hW hD hv (W0 := W0) hb' q
        exact cf_le2 hE q (by omega)
    · omega
  intro n
  induction n with
  | zero =>
    intro g la S b E hg hb hld hla hl9 htr hS hE hrb
    rw [tg]
    by_cases hpr : S.1 ≤ la ∨ S.1 ≤ bnd t v (wAll t (FWc t) v W0)
    · rw [if_pos hpr, prn 0 g la S b E hg hb hla hl9 hS hE hpr]
      exact ⟨hS, hE, hrb, rfl, fun _ _ => rfl⟩
    · rw [if_neg hpr]
      have hg6 : g = t 0 6 := by omega
      have e1 : tmB t v b = la := by rw [tmB_P, hla, hg6]
      have e2 : enT t v 0 g b E = (la, b) := by
        rw [enT]; unfold evB
        rw [e1, if_pos (cf_lt2 hl9 (by omega))]
      rw [e2]
      refine ⟨(cf_lt hl9).symm, by show la ≤ 99999; omega, Or.inr (fun j hj => ?_), rfl, fun _ _ => rfl⟩
      show cp5 S.2.1 S.2.2.1 j = _
      unfold cp5
      rw [if_pos (by omega)]
      exact htr j (by omega)
  | succ n ih =>
    intro g la S b E hg hb hld hla hl9 htr hS hE hrb
    rw [tg]
    by_cases hpr : S.1 ≤ la ∨ S.1 ≤ bnd t v (wAll t (FWc t) v W0)
    · rw [if_pos hpr, prn (n + 1) g la S b E hg hb hla hl9 hS hE hpr]
      exact ⟨hS, hE, hrb, rfl, fun _ _ => rfl⟩
    · rw [if_neg hpr, enT]
      by_cases hm : mgo t v g = true
      · rw [if_pos hm, if_pos hm]
        obtain ⟨CF, hCF⟩ : ∃ CF : Nat → S4 → S4, CF = (fun p S => if wAll t (FWc t) v W0 (32 * p + (S.2.2.2 p ||| 2 ^ g)) < 1000000 then ((tg t v (wAll t (FWc t) v W0) (bnd t v (wAll t (FWc t) v W0)) n (g + 1) (max la (wAll t (FWc t) v W0 (32 * p + (S.2.2.2 p ||| 2 ^ g)))) (S.1, updI S.2.1 g (nI p), S.2.2.1, upN S.2.2.2 p (S.2.2.2 p ||| 2 ^ g))).1, (tg t v (wAll t (FWc t) v W0) (bnd t v (wAll t (FWc t) v W0)) n (g + 1) (max la (wAll t (FWc t) v W0 (32 * p + (S.2.2.2 p ||| 2 ^ g)))) (S.1, updI S.2.1 g (nI p), S.2.2.1, upN S.2.2.2 p (S.2.2.2 p ||| 2 ^ g))).2.1, (tg t v (wAll t (FWc t) v W0) (bnd t v (wAll t (FWc t) v W0)) n (g + 1) (max la (wAll t (FWc t) v W0 (32 * p + (S.2.2.2 p ||| 2 ^ g)))) (S.1, updI S.2.1 g (nI p), S.2.2.1, upN S.2.2.2 p (S.2.2.2 p ||| 2 ^ g))).2.2.1, upN (tg t v (wAll t (FWc t) v W0) (bnd t v (wAll t (FWc t) v W0)) n (g + 1) (max la (wAll t (FWc t) v W0 (32 * p + (S.2.2.2 p ||| 2 ^ g)))) (S.1, updI S.2.1 g (nI p), S.2.2.1, upN S.2.2.2 p (S.2.2.2 p ||| 2 ^ g))).2.2.2 p (S.2.2.2 p)) else S) := ⟨_, rfl⟩
        rw [← hCF]
        have key : ∀ k, k ≤ t 0 5 → (fu CF k S).1 = cf (fu (fun p S => enT t v n (g + 1) (upN b g p) S) k E).1 ∧ (fu (fun p S => enT t v n (g + 1) (upN b g p) S) k E).1 ≤ 99999 ∧ rbB t v (fu CF k S).2.2.1 (fu (fun p S => enT t v n (g + 1) (upN b g p) S) k E) ∧ (fu CF k S).2.2.2 = S.2.2.2 ∧ ∀ j, j < g → (fu CF k S).2.1 j = S.2.1 j := by
          intro k
          induction k with
          | zero => intro _; exact ⟨hS, hE, hrb, rfl, fun _ _ => rfl⟩
          | succ k ihk =>
            intro hk
            obtain ⟨i1, i2, i3, i4, i5⟩ := ihk (by omega)
            show (CF k (fu CF k S)).1 = cf (enT t v n (g + 1) (upN b g k) (fu _ k E)).1 ∧ (enT t v n (g + 1) (upN b g k) (fu _ k E)).1 ≤ 99999 ∧ rbB t v (CF k (fu CF k S)).2.2.1 (enT t v n (g + 1) (upN b g k) (fu _ k E)) ∧ (CF k (fu CF k S)).2.2.2 = S.2.2.2 ∧ ∀ j, j < g → (CF k (fu CF k S)).2.1 j = S.2.1 j
            obtain ⟨Sk, hSk⟩ : ∃ Sk, Sk = fu CF k S := ⟨_, rfl⟩
            obtain ⟨Ek, hEk⟩ : ∃ Ek, Ek = fu (fun p S => enT t v n (g + 1) (upN b g p) S) k E := ⟨_, rfl⟩
            rw [← hSk, ← hEk] at i1 i3 ⊢
            rw [← hEk] at i2
            rw [← hSk] at i4 i5
            have hb' : ∀ j, j < g + 1 → mgo t v j = true → upN b g k j < t 0 5 := fun j hj hmj => by
              by_cases q : j = g
              · subst q; rw [upN_at]; omega
              · rw [upN_ne _ q]; exact hb j (by omega) hmj
            -- the loads
            have hL : Sk.2.2.2 k ||| 2 ^ g = ldB t v (upN b g k) (g + 1) k := by
              rw [i4, hld k (by omega), ldB_t (by rw [hm, upN_at, decide_eq_true rfl]; rfl), ldB_cg (b := upN b g k) (b' := b) (fun j hj => upN_ne _ (by omega))]
            have hLo : ∀ q, q ≠ k → ldB t v (upN b g k) (g + 1) q = ldB t v b g q := fun q hq => by
              rw [ldB_f (fun y => by rw [Bool.and_eq_true, upN_at, decide_eq_true_eq] at y; exact hq y.2.symm), ldB_cg (b := upN b g k) (b' := b) (fun j hj => upN_ne _ (by omega))]
            have hok := ldB_ok (v := v) h5 (upN b g k) (show g + 1 ≤ t 0 6 by omega) k
            have hL0 : ldB t v (upN b g k) (g + 1) k ≠ 0 := fun q => by
              have := or_sub (Sk.2.2.2 k) (by rw [i4, hld k (by omega)]; exact ldB_32 b k (by omega)) g (by omega)
              rw [← hL] at q
              have z : (Sk.2.2.2 k ||| 2 ^ g).testBit g = true := by rw [Nat.testBit_or, Nat.testBit_two_pow, decide_eq_true rfl, Bool.or_true]
              rw [q] at z; simp at z
            have hWv := WA_tk hW hD hv (show k < t 0 5 by omega) (W := W0) hok (Or.inl hL0)
            have hmono : tk t v k (ldB t v b g k) ≤ tk t v k (ldB t v (upN b g k) (g + 1) k) := tk_mono hW hD hv (by omega) hok (ldB_32 b k (by omega)) (fun x hx hb => by
              rw [ldB_bit, Bool.and_eq_true, Bool.and_eq_true, decide_eq_true_eq, decide_eq_true_eq] at hb
              rw [ldB_bit, decide_eq_true (show x < g + 1 by omega), hb.2.1, upN_ne _ (by omega), decide_eq_true hb.2.2]; rfl)
            have htm : tmP t v (upN b g k) (g + 1) = max (tmP t v b g) (tk t v k (ldB t v (upN b g k) (g + 1) k)) := by
              refine Nat.le_antisymm (fu_max_le _ (fun q hq => ?_)) ?_
              · by_cases e : q = k
                · subst e; omega
                · rw [hLo q e]
                  have := fu_max_ge (f := fun p => tk t v p (ldB t v b g p)) (t 0 5) hq
                  exact Nat.le_trans this (Nat.le_max_left _ _)
              · refine Nat.max_le.mpr ⟨fu_max_le _ (fun q hq => ?_), fu_max_ge (f := fun p => tk t v p (ldB t v (upN b g k) (g + 1) p)) (t 0 5) (by omega)⟩
                have g1 := fu_max_ge (f := fun p => tk t v p (ldB t v (upN b g k) (g + 1) p)) (t 0 5) hq
                by_cases e : q = k
                · subst e; exact Nat.le_trans hmono g1
                · have g1 : tk t v q (ldB t v (upN b g k) (g + 1) q) ≤ tmP t v (upN b g k) (g + 1) := g1
                  rw [hLo q e] at g1; exact g1
            by_cases hfar : tk t v k (ldB t v (upN b g k) (g + 1) k) < 99999
            · have hc : wAll t (FWc t) v W0 (32 * k + (Sk.2.2.2 k ||| 2 ^ g)) < 1000000 := by rw [hL, hWv, cf_lt hfar]; omega
              have e1 : max la (wAll t (FWc t) v W0 (32 * k + (Sk.2.2.2 k ||| 2 ^ g))) = tmP t v (upN b g k) (g + 1) := by rw [hL, hWv, cf_lt hfar, htm, hla]
              have ihn := ih (g + 1) (max la (wAll t (FWc t) v W0 (32 * k + (Sk.2.2.2 k ||| 2 ^ g)))) (Sk.1, updI Sk.2.1 g (nI k), Sk.2.2.1, upN Sk.2.2.2 k (Sk.2.2.2 k ||| 2 ^ g)) (upN b g k) Ek (by omega) hb' (fun q hq => by
                  show upN Sk.2.2.2 k (Sk.2.2.2 k ||| 2 ^ g) q = _
                  by_cases e : q = k
                  · subst e; rw [upN_at, hL]
                  · rw [upN_ne _ e, i4, hLo q e]; exact hld q hq) e1 (by rw [e1, htm, ← hla]; omega) (fun j hj => by
                  show updI Sk.2.1 g (nI k) j = _
                  unfold updI
                  by_cases e : j = g
                  · subst e; rw [if_pos rfl, if_pos hm, upN_at]
                  · rw [if_neg e, upN_ne _ e, i5 j (by omega)]; exact htr j (by omega)) i1 i2 i3
              have e2 : CF k Sk = ((tg t v (wAll t (FWc t) v W0) (bnd t v (wAll t (FWc t) v W0)) n (g + 1) (max la (wAll t (FWc t) v W0 (32 * k + (Sk.2.2.2 k ||| 2 ^ g)))) (Sk.1, updI Sk.2.1 g (nI k), Sk.2.2.1, upN Sk.2.2.2 k (Sk.2.2.2 k ||| 2 ^ g))).1, (tg t v (wAll t (FWc t) v W0) (bnd t v (wAll t (FWc t) v W0)) n (g + 1) (max la (wAll t (FWc t) v W0 (32 * k + (Sk.2.2.2 k ||| 2 ^ g)))) (Sk.1, updI Sk.2.1 g (nI k), Sk.2.2.1, upN Sk.2.2.2 k (Sk.2.2.2 k ||| 2 ^ g))).2.1, (tg t v (wAll t (FWc t) v W0) (bnd t v (wAll t (FWc t) v W0)) n (g + 1) (max la (wAll t (FWc t) v W0 (32 * k + (Sk.2.2.2 k ||| 2 ^ g)))) (Sk.1, updI Sk.2.1 g (nI k), Sk.2.2.1, upN Sk.2.2.2 k (Sk.2.2.2 k ||| 2 ^ g))).2.2.1, upN (tg t v (wAll t (FWc t) v W0) (bnd t v (wAll t (FWc t) v W0)) n (g + 1) (max la (wAll t (FWc t) v W0 (32 * k + (Sk.2.2.2 k ||| 2 ^ g)))) (Sk.1, updI Sk.2.1 g (nI k), Sk.2.2.1, upN Sk.2.2.2 k (Sk.2.2.2 k ||| 2 ^ g))).2.2.2 k (Sk.2.2.2 k)) := by
                rw [hCF]; exact if_pos hc
              rw [e2]
              obtain ⟨j1, j2, j3, j4, j5⟩ := ihn
              refine ⟨j1, j2, j3, ?_, fun j hj => ?_⟩
              · show upN _ k (Sk.2.2.2 k) = S.2.2.2
                rw [j4]
                show upN (upN Sk.2.2.2 k _) k (Sk.2.2.2 k) = S.2.2.2
                rw [upN_upN, upN_self rfl, i4]
              · have := j5 j (by omega)
                refine this.trans ?_
                show updI Sk.2.1 g (nI k) j = _
                unfold updI
                rw [if_neg (by omega)]; exact i5 j hj
            · have hc : ¬ wAll t (FWc t) v W0 (32 * k + (Sk.2.2.2 k ||| 2 ^ g)) < 1000000 := by rw [hL, hWv, cf_ge hfar]; omega
              have e2 : CF k Sk = Sk := by rw [hCF]; exact if_neg hc
              have e3 : enT t v n (g + 1) (upN b g k) Ek = Ek := en_keep n (g + 1) (upN b g k) Ek (by omega) hb' (fun b' hb2 e => by
                have := tmP_le hW hD hv (show g + 1 ≤ t 0 6 by omega) e
                rw [htm] at this
                omega)
              rw [e2, e3]
              exact ⟨i1, i2, i3, i4, i5⟩
        exact key (t 0 5) (Nat.le_refl _)
      · rw [if_neg hm, if_neg hm]
        have hLo : ∀ q, ldB t v b (g + 1) q = ldB t v b g q := fun q => ldB_f (fun y => by rw [Bool.and_eq_true] at y; exact hm y.1)
        have htm : tmP t v b (g + 1) = tmP t v b g := by
          unfold tmP
          have : (fun (p : Nat) (c : Nat) => max c (tk t v p (ldB t v b (g + 1) p))) = fun p c => max c (tk t v p (ldB t v b g p)) := by funext p c; rw [hLo p]
          rw [this]
        obtain ⟨j1, j2, j3, j4, j5⟩ := ih (g + 1) la (S.1, updI S.2.1 g (-2), S.2.2.1, S.2.2.2) b E (by omega) (fun j hj hmj => by
            by_cases q : j = g
            · subst q; exact absurd hmj hm
            · exact hb j (by omega) hmj) (fun p hp => by rw [hLo p]; exact hld p hp) (by rw [htm]; exact hla) hl9 (fun j hj => by
            show updI S.2.1 g (-2) j = _
            unfold updI
            by_cases q : j = g
            · subst q; rw [if_pos rfl, if_neg hm]
            · rw [if_neg q]; exact htr j (by omega)) hS hE hrb
        refine ⟨j1, j2, j3, j4, fun j hj => ?_⟩
        refine (j5 j (by omega)).trans ?_
        show updI S.2.1 g (-2) j = _
        unfold updI
        rw [if_neg (by omega)]
/-- the reference's answer -/
def ENs (t : TW) (v : Nat → Nat) : SB := enT t v (t 0 6) 0 (fun _ => 0) ((99999, fun _ => 0) : SB)
theorem tg_all (hW : WT t) (hD : DS 99999 (t 2) (t 3)) (hv : ∀ g, g < t 0 6 → v (6 + g) < t 0 3) {W0 : Nat → Nat} {tr be : Nat → Int32} :
    (tg t v (wAll t (FWc t) v W0) (bnd t v (wAll t (FWc t) v W0)) (t 0 6) 0 0 (1000000, tr, be, fun _ => 0)).1 = cf (ENs t v).1 ∧ (ENs t v).1 ≤ 99999 ∧ rbB t v (tg t v (wAll t (FWc t) v W0) (bnd t v (wAll t (FWc t) v W0)) (t 0 6) 0 0 (1000000, tr, be, fun _ => 0)).2.2.1 (ENs t v) ∧ (tg t v (wAll t (FWc t) v W0) (bnd t v (wAll t (FWc t) v W0)) (t 0 6) 0 0 (1000000, tr, be, fun _ => 0)).2.2.2 = fun _ => 0 := by
  have z : tmP t v (fun _ => 0) 0 = 0 := Nat.le_antisymm (fu_max_le _ (fun p _ => by show tk t v p 0 ≤ 0; unfold tk; rw [if_pos rfl]; exact Nat.le_refl _)) (Nat.zero_le _)
  obtain ⟨j1, j2, j3, j4, -⟩ := tg_en hW hD hv (W0 := W0) (t 0 6) 0 0 (1000000, tr, be, fun _ => 0) (fun _ => 0) ((99999, fun _ => 0) : SB) (Nat.zero_add _) (fun j hj => absurd hj (Nat.not_lt_zero _)) (fun p hp => rfl) z.symm (by decide) (fun j hj => absurd hj (Nat.not_lt_zero _)) rfl (Nat.le_refl _) (Or.inl rfl)
  exact ⟨j1, j2, j3, j4⟩
end ASG
