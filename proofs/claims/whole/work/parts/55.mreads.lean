/-! the reference: what is read -/
/-- where the reading stands: over, with a fault; or at a token -/
def MZ (mi : MI) (ml : ML) (B : Nat → Nat) (n : Nat) : ER Nat → Prop
  | .inl e => mi 1000 9 = nI 5 ∧ mi 1000 13 = nI e.1 ∧ mi 1000 14 = nI e.2
  | .inr p => p ≤ n ∧ TK mi ml B n p ∧ mi 1000 13 = nI 0
def FG (mi : MI) (ml : ML) (mi' : MI) (ml' : ML) : Prop := (∀ a, a ≠ 1000 → mi' a = mi a) ∧ (∀ a, a ≠ 1000 → ml' a = ml a) ∧ ∀ j, j < 8 ∨ 14 < j → mi' 1000 j = mi 1000 j
def es {α : Type} (f : α → Nat) (x : ER α) : ER Nat := match x with
  | .inl e => .inl e
  | .inr a => .inr (f a)
theorem sM_3 {s : Nat} (h : s = 2) : sM s = 3 := by rw [h]; rfl
theorem sM_k {s k : Nat} (h4 : s ≤ 4) (h : s ≠ k) (hk : k < 4) : ¬ sM s = k + 1 := by unfold sM; split <;> omega
theorem sM_le {s : Nat} (h4 : s ≤ 4) : sM s ≤ 4 := by unfold sM; split <;> omega
section M13j
variable {G : GG} {post : PT} {mi : MI} {ml : ML} {mr : MR} {dom : List Nat} {M : Nat} {t : TW} {B : Nat → Nat} {n p : Nat} {e : Nat × Nat}
theorem FG.rfl' (mi : MI) (ml : ML) : FG mi ml mi ml := ⟨fun _ _ => rfl, fun _ _ => rfl, fun _ _ => rfl⟩
theorem FG.tr {m m2 : MI} {l l2 : ML} (h : FG mi ml m l) (h2 : FG m l m2 l2) : FG mi ml m2 l2 := ⟨fun a x => (h2.1 a x).trans (h.1 a x), fun a x => (h2.2.1 a x).trans (h.2.1 a x), fun j x => (h2.2.2 j x).trans (h.2.2 j x)⟩
theorem FG0.fg {m : MI} {l : ML} (h : FG0 mi ml m l) : FG mi ml m l := ⟨h.1, h.2.1, fun j hj => h.2.2 j (by omega)⟩
theorem FG.pu {j : Nat} (hj : 8 ≤ j ∧ j ≤ 14) (x : Int32) : FG mi ml (up mi 1000 j x) ml := ⟨fun a ha => up_off _ _ ha, fun _ _ => rfl, fun i hi => up_ne _ _ (by omega)⟩
theorem RBM.f {m : MI} {l : ML} (h : RBM mi B n) (f : FG mi ml m l) : RBM m B n := ⟨(f.2.2 7 (by omega)).trans h.1, h.2.1, by rw [f.1 1001 (by decide)]; exact h.2.2⟩
theorem m_flawO {x : Int32} (hs : mi 1000 9 = nI 5) (hp : post none mi ml mr dom) : CT G 1 0 0 yX13_flaw cX13_flaw 2 none [.ref 1000, .int x] mi ml mr dom post := by
  refine enter 0 (by decide) rfl rfl (fun X => ?_)
  refine j_aload_n dX13_flaw_0 rfl rfl ?_
  refine gI13_79 rfl dX13_flaw_1 ?_
  rw [hs]
  refine j_iconst (v := nI 5) dX13_flaw_4 (by decide) ?_
  refine j_icmp_ne (tgt := 9) dX13_flaw_5 (by decide) (fun h5 => absurd (by decide) h5) (fun h5 => ?_)
  refine j_vret rfl dX13_flaw_8 ?_
  exact hp
theorem m_flawN {k : Nat} (h : MZ mi ml B n (.inr p)) (hp : ∀ m, FG mi ml m ml → MZ m ml B n (.inl (k, tA B n p)) → post none m ml mr dom) : CT G 1 0 0 yX13_flaw cX13_flaw 2 none [.ref 1000, .int (nI k)] mi ml mr dom post := by
  have h5 := sM_le (tS_le B n p)
  refine enter 0 (by decide) rfl rfl (fun X => ?_)
  refine j_aload_n dX13_flaw_0 rfl rfl ?_
  refine gI13_79 rfl dX13_flaw_1 ?_
  rw [h.2.1.2.1]
  refine j_iconst (v := nI 5) dX13_flaw_4 (by decide) ?_
  refine j_icmp_ne (tgt := 9) dX13_flaw_5 (by decide) (fun h5 => ?_) (fun h5 => by exfalso; rw [nI_eq (by omega) (by omega)] at h5; omega)
  refine j_aload_n dX13_flaw_9 rfl rfl ?_
  refine j_iload_n dX13_flaw_10 rfl rfl ?_
  refine pI13_108 rfl dX13_flaw_11 ?_
  refine j_aload_n dX13_flaw_14 rfl rfl ?_
  refine j_aload_n dX13_flaw_15 rfl rfl ?_
  refine gI13_88 rfl dX13_flaw_16 ?_
  rw [up_ne _ _ (by decide), h.2.1.2.2.1]
  refine pI13_111 rfl dX13_flaw_19 ?_
  refine j_aload_n dX13_flaw_22 rfl rfl ?_
  refine j_iconst (v := nI 5) dX13_flaw_23 (by decide) ?_
  refine pI13_79 rfl dX13_flaw_24 ?_
  refine j_vret rfl dX13_flaw_27 ?_
  exact hp (up (up (up mi 1000 13 (nI k)) 1000 14 (nI (tA B n p))) 1000 9 (nI 5)) (((FG.pu (ml := ml) (by omega) _).tr (FG.pu (ml := ml) (by omega) _)).tr (FG.pu (by omega) _)) ⟨up_at _ _ _ _, by rw [up_ne _ _ (by decide), up_ne _ _ (by decide), up_at], by rw [up_ne _ _ (by decide), up_at]⟩
theorem m_goes (hX : XM mr) (hB : RBM mi B n) (h : MZ mi ml B n (.inr p)) (h4 : tS B n p ≠ 4) (hp : ∀ m l, FG mi ml m l → MZ m l B n (.inr (tE B n p)) → post none m l mr dom) : CT G 2 0 0 yX13_goesOn cX13_goesOn 3 none [.ref 1000] mi ml mr dom post := by
  refine m_goesN (s := sM (tS B n p)) hX hB (h.2.1.1 h4) (tE_le B h.1) h.2.1.2.1 (by have := sM_le (tS_le B n p); omega) (fun m l f tk => hp m l f.fg ⟨tE_le B h.1, tk, by rw [f.2.2 13 (by omega)]; exact h.2.2⟩)
theorem m_isWordO {i : Nat} (hs : mi 1000 9 = nI 5) (hp : post (some (.int (nI 0))) mi ml mr dom) : CT G 7 0 0 yX13_isWord cX13_isWord 2 (some .boolean) [.ref 1000, .ref (500 + i)] mi ml mr dom post := by
  refine enter 0 (by decide) rfl rfl (fun X => ?_)
  refine j_aload_n dX13_isWord_0 rfl rfl ?_
  refine gI13_79 rfl dX13_isWord_1 ?_
  rw [hs]
  refine j_iconst (v := nI 2) dX13_isWord_4 (by decide) ?_
  refine j_icmp_ne (tgt := 24) dX13_isWord_5 (by decide) (fun h5 => ?_) (fun h5 => absurd h5 (by decide))
  refine j_iconst (v := nI 0) dX13_isWord_24 (by decide) ?_
  refine j_zret rfl (by decide) dX13_isWord_25 ?_
  exact hp
theorem m_isWord {i : Nat} (hi : i < 24) (h : MZ mi ml B n (.inr p)) (hp : post (some (.int (nI (bN (decide (tS B n p = 1 ∧ tH B n p = kc i)))))) mi ml mr dom) : CT G 7 0 0 yX13_isWord cX13_isWord 2 (some .boolean) [.ref 1000, .ref (500 + i)] mi ml mr dom post := by
  have h5 := sM_le (tS_le B n p)
  by_cases h1 : tS B n p = 1
  · refine enter 0 (by decide) rfl rfl (fun X => ?_)
    refine j_aload_n dX13_isWord_0 rfl rfl ?_
    refine gI13_79 rfl dX13_isWord_1 ?_
    rw [h.2.1.2.1, show sM (tS B n p) = 2 by rw [h1]; rfl]
    refine j_iconst (v := nI 2) dX13_isWord_4 (by decide) ?_
    refine j_icmp_ne (tgt := 24) dX13_isWord_5 (by decide) (fun h5 => absurd (by decide) h5) (fun h5 => ?_)
    refine j_aload_n dX13_isWord_8 rfl rfl ?_
    refine gL13_95 rfl dX13_isWord_9 ?_
    rw [(h.2.1.2.2.2.1 h1).1]
    refine j_aload_n dX13_isWord_12 rfl rfl ?_
    refine cS13_114 (d1 := 6) dX13_isWord_13 (by decide) (Nat.le_of_ble_eq_true rfl) ?_
    refine m_packed hi ?_
    refine j_lcmp dX13_isWord_16 ?_
    refine j_if_ne (tgt := 24) dX13_isWord_17 (by decide) (fun h17 => ?_) (fun h17 => ?_)
    · refine j_iconst (v := nI 0) dX13_isWord_24 (by decide) ?_
      refine j_zret rfl (by decide) dX13_isWord_25 ?_
      rw [cmp0] at h17
      first
        | (rw [decide_eq_true ⟨h1, h17⟩] at hp; exact hp)
        | (rw [decide_eq_false (fun q => h17 q.2)] at hp; exact hp)
    · refine j_iconst (v := nI 1) dX13_isWord_20 (by decide) ?_
      refine j_goto (tgt := 25) dX13_isWord_21 (by decide) ?_
      refine j_zret rfl (by decide) dX13_isWord_25 ?_
      rw [cmp0] at h17
      first
        | (rw [decide_eq_true ⟨h1, h17⟩] at hp; exact hp)
        | (rw [decide_eq_false (fun q => h17 q.2)] at hp; exact hp)
  · rw [decide_eq_false (fun q => h1 q.1)] at hp
    have hk := sM_k (tS_le B n p) h1 (by decide)
    refine enter 0 (by decide) rfl rfl (fun X => ?_)
    refine j_aload_n dX13_isWord_0 rfl rfl ?_
    refine gI13_79 rfl dX13_isWord_1 ?_
    rw [h.2.1.2.1]
    refine j_iconst (v := nI 2) dX13_isWord_4 (by decide) ?_
    refine j_icmp_ne (tgt := 24) dX13_isWord_5 (by decide) (fun h55 => ?_) (fun h55 => by exfalso; rw [nI_eq (by omega) (by decide)] at h55; exact hk h55)
    refine j_iconst (v := nI 0) dX13_isWord_24 (by decide) ?_
    refine j_zret rfl (by decide) dX13_isWord_25 ?_
    exact hp
theorem m_eatO (hs : mi 1000 9 = nI 5) (hp : post (some (.int (nI 0))) mi ml mr dom) : CT G 3 0 0 yX13_eatsSemicolon cX13_eatsSemicolon 2 (some .boolean) [.ref 1000] mi ml mr dom post := by
  refine enter 1 (by decide) rfl rfl (fun X => ?_)
  refine j_aload_n dX13_eatsSemicolon_0 rfl rfl ?_
  refine gI13_79 rfl dX13_eatsSemicolon_1 ?_
  rw [hs]
  refine j_iconst (v := nI 4) dX13_eatsSemicolon_4 (by decide) ?_
  refine j_icmp_ne (tgt := 12) dX13_eatsSemicolon_5 (by decide) (fun h5 => ?_) (fun h5 => absurd h5 (by decide))
  refine j_iconst (v := nI 0) dX13_eatsSemicolon_12 (by decide) ?_
  refine j_istore_n (lv2 := [_, _]) dX13_eatsSemicolon_13 rfl (by decide) rfl rfl ?_
  refine j_iload_n dX13_eatsSemicolon_14 rfl rfl ?_
  refine j_if_eq (tgt := 22) dX13_eatsSemicolon_15 (by decide) (fun h15 => ?_) (fun h15 => absurd (by decide) h15)
  refine j_iload_n dX13_eatsSemicolon_22 rfl rfl ?_
  refine j_zret rfl (by decide) dX13_eatsSemicolon_23 ?_
  exact hp
theorem m_eatN (h : MZ mi ml B n (.inr p)) (h3 : tS B n p ≠ 3) (hp : post (some (.int (nI 0))) mi ml mr dom) : CT G 3 0 0 yX13_eatsSemicolon cX13_eatsSemicolon 2 (some .boolean) [.ref 1000] mi ml mr dom post := by
  have h6 := sM_le (tS_le B n p)
  have hk := sM_k (tS_le B n p) h3 (by decide)
  refine enter 1 (by decide) rfl rfl (fun X => ?_)
  refine j_aload_n dX13_eatsSemicolon_0 rfl rfl ?_
  refine gI13_79 rfl dX13_eatsSemicolon_1 ?_
  rw [h.2.1.2.1]
  refine j_iconst (v := nI 4) dX13_eatsSemicolon_4 (by decide) ?_
  refine j_icmp_ne (tgt := 12) dX13_eatsSemicolon_5 (by decide) (fun h5 => ?_) (fun h5 => by exfalso; rw [nI_eq (by omega) (by decide)] at h5; exact hk h5)
  refine j_iconst (v := nI 0) dX13_eatsSemicolon_12 (by decide) ?_
  refine j_istore_n (lv2 := [_, _]) dX13_eatsSemicolon_13 rfl (by decide) rfl rfl ?_
  refine j_iload_n dX13_eatsSemicolon_14 rfl rfl ?_
  refine j_if_eq (tgt := 22) dX13_eatsSemicolon_15 (by decide) (fun h15 => ?_) (fun h15 => absurd (by decide) h15)
  refine j_iload_n dX13_eatsSemicolon_22 rfl rfl ?_
  refine j_zret rfl (by decide) dX13_eatsSemicolon_23 ?_
  exact hp
theorem m_eatY (hX : XM mr) (hB : RBM mi B n) (h : MZ mi ml B n (.inr p)) (h3 : tS B n p = 3) (hp : ∀ m l, FG mi ml m l → MZ m l B n (.inr (tE B n p)) → post (some (.int (nI 1))) m l mr dom) : CT G 3 0 0 yX13_eatsSemicolon cX13_eatsSemicolon 2 (some .boolean) [.ref 1000] mi ml mr dom post := by
  refine enter 1 (by decide) rfl rfl (fun X => ?_)
  refine j_aload_n dX13_eatsSemicolon_0 rfl rfl ?_
  refine gI13_79 rfl dX13_eatsSemicolon_1 ?_
  rw [h.2.1.2.1, show sM (tS B n p) = 4 by rw [h3]; rfl]
  refine j_iconst (v := nI 4) dX13_eatsSemicolon_4 (by decide) ?_
  refine j_icmp_ne (tgt := 12) dX13_eatsSemicolon_5 (by decide) (fun h5 => absurd (by decide) h5) (fun h5 => ?_)
  refine j_iconst (v := nI 1) dX13_eatsSemicolon_8 (by decide) ?_
  refine j_goto (tgt := 13) dX13_eatsSemicolon_9 (by decide) ?_
  refine j_istore_n (lv2 := [_, _]) dX13_eatsSemicolon_13 rfl (by decide) rfl rfl ?_
  refine j_iload_n dX13_eatsSemicolon_14 rfl rfl ?_
  refine j_if_eq (tgt := 22) dX13_eatsSemicolon_15 (by decide) (fun h15 => absurd h15 (by decide)) (fun h15 => ?_)
  refine j_aload_n dX13_eatsSemicolon_18 rfl rfl ?_
  refine cV13_118 (d1 := 2) rfl dX13_eatsSemicolon_19 (by decide) (Nat.le_of_ble_eq_true rfl) ?_
  refine m_goes hX hB h (by omega) (fun m1 l1 f1 z1 => ?_)
  refine j_iload_n dX13_eatsSemicolon_22 rfl rfl ?_
  refine j_zret rfl (by decide) dX13_eatsSemicolon_23 ?_
  exact hp m1 l1 f1 z1
theorem m_needs {i : Nat} {x : ER Nat} (hX : XM mr) (hB : RBM mi B n) (hi : i < 24) (hz : MZ mi ml B n x) (hp : ∀ m l, FG mi ml m l → MZ m l B n (eb x (pW B n i)) → post none m l mr dom) : CT G 8 0 0 yX13_needs cX13_needs 2 none [.ref 1000, .ref (500 + i)] mi ml mr dom post := by
  cases x with
  | inl e =>
    refine enter 0 (by decide) rfl rfl (fun X => ?_)
    refine j_aload_n dX13_needs_0 rfl rfl ?_
    refine j_aload_n dX13_needs_1 rfl rfl ?_
    refine cV13_121 (d1 := 7) rfl dX13_needs_2 (by decide) (Nat.le_of_ble_eq_true rfl) ?_
    refine m_isWordO hz.1 ?_
    refine j_if_ne (tgt := 13) dX13_needs_5 (by decide) (fun h5 => absurd (by decide) h5) (fun h5 => ?_)
    refine j_aload_n dX13_needs_8 rfl rfl ?_
    refine j_iconst (v := nI 1) dX13_needs_9 (by decide) ?_
    refine cV13_125 (d1 := 1) rfl dX13_needs_10 (by decide) (Nat.le_of_ble_eq_true rfl) ?_
    refine m_flawO hz.1 ?_
    refine j_aload_n dX13_needs_13 rfl rfl ?_
    refine cV13_118 (d1 := 2) rfl dX13_needs_14 (by decide) (Nat.le_of_ble_eq_true rfl) ?_
    refine m_goesO hz.1 ?_
    refine j_vret rfl dX13_needs_17 ?_
    exact hp mi ml (FG.rfl' mi ml) hz
  | inr p =>
    by_cases hc : tS B n p = 1 ∧ tH B n p = kc i
    · have hq : eb (.inr p) (pW B n i) = .inr (tE B n p) := if_pos hc
      rw [hq] at hp
      have hc1 := hc.1
      refine enter 0 (by decide) rfl rfl (fun X => ?_)
      refine j_aload_n dX13_needs_0 rfl rfl ?_
      refine j_aload_n dX13_needs_1 rfl rfl ?_
      refine cV13_121 (d1 := 7) rfl dX13_needs_2 (by decide) (Nat.le_of_ble_eq_true rfl) ?_
      refine m_isWord hi hz ?_
      rw [decide_eq_true hc]
      show J _ _ _ _ _ _ _ _ _ _ _ _ _ _ _ _ _ (.int (nI 1) :: _)
      refine j_if_ne (tgt := 13) dX13_needs_5 (by decide) (fun h5 => ?_) (fun h5 => absurd h5 (by decide))
      refine j_aload_n dX13_needs_13 rfl rfl ?_
      refine cV13_118 (d1 := 2) rfl dX13_needs_14 (by decide) (Nat.le_of_ble_eq_true rfl) ?_
      refine m_goes hX hB hz (by omega) (fun m1 l1 f1 z1 => ?_)
      refine j_vret rfl dX13_needs_17 ?_
      exact hp m1 l1 f1 z1
    · have hq : eb (.inr p) (pW B n i) = .inl (1, tA B n p) := if_neg hc
      rw [hq] at hp
      refine enter 0 (by decide) rfl rfl (fun X => ?_)
      refine j_aload_n dX13_needs_0 rfl rfl ?_
      refine j_aload_n dX13_needs_1 rfl rfl ?_
      refine cV13_121 (d1 := 7) rfl dX13_needs_2 (by decide) (Nat.le_of_ble_eq_true rfl) ?_
      refine m_isWord hi hz ?_
      rw [decide_eq_false hc]
      show J _ _ _ _ _ _ _ _ _ _ _ _ _ _ _ _ _ (.int (nI 0) :: _)
      refine j_if_ne (tgt := 13) dX13_needs_5 (by decide) (fun h5 => absurd (by decide) h5) (fun h5 => ?_)
      refine j_aload_n dX13_needs_8 rfl rfl ?_
      refine j_iconst (v := nI 1) dX13_needs_9 (by decide) ?_
      refine cV13_125 (d1 := 1) rfl dX13_needs_10 (by decide) (Nat.le_of_ble_eq_true rfl) ?_
      refine m_flawN (k := 1) hz (fun m1 f1 z1 => ?_)
      refine j_aload_n dX13_needs_13 rfl rfl ?_
      refine cV13_118 (d1 := 2) rfl dX13_needs_14 (by decide) (Nat.le_of_ble_eq_true rfl) ?_
      refine m_goesO z1.1 ?_
      refine j_vret rfl dX13_needs_17 ?_
      exact hp m1 ml f1 z1
theorem m_readWhole {lo hi : Nat} {x : ER Nat} (hX : XM mr) (hB : RBM mi B n) (hlo : lo < 2 ^ 30) (hhi : hi < 2 ^ 30) (hz : MZ mi ml B n x) (hp : ∀ (v : Int32) m l, FG mi ml m l → MZ m l B n (es Prod.fst (eb x (pN B n lo hi))) → (∀ q, eb x (pN B n lo hi) = .inr q → v = nI q.2) → post (some (.int v)) m l mr dom) : CT G 3 0 0 yX13_readWhole cX13_readWhole 4 (some .int) [.ref 1000, .int (nI lo), .int (nI hi)] mi ml mr dom post := by
  cases x with
  | inl e =>
    refine enter 1 (by decide) rfl rfl (fun X => ?_)
    refine j_aload_n dX13_readWhole_0 rfl rfl ?_
    refine gI13_79 rfl dX13_readWhole_1 ?_
    rw [hz.1]
    refine j_iconst (v := nI 3) dX13_readWhole_4 (by decide) ?_
    refine j_icmp_eq (tgt := 16) dX13_readWhole_5 (by decide) (fun h5 => absurd h5 (by decide)) (fun h5 => ?_)
    refine j_aload_n dX13_readWhole_8 rfl rfl ?_
    refine j_iconst (v := nI 1) dX13_readWhole_9 (by decide) ?_
    refine cV13_125 (d1 := 1) rfl dX13_readWhole_10 (by decide) (Nat.le_of_ble_eq_true rfl) ?_
    refine m_flawO hz.1 ?_
    refine j_goto (tgt := 33) dX13_readWhole_13 (by decide) ?_
    refine j_aload_n dX13_readWhole_33 rfl rfl ?_
    refine gI13_79 rfl dX13_readWhole_34 ?_
    rw [hz.1]
    refine j_iconst (v := nI 5) dX13_readWhole_37 (by decide) ?_
    refine j_icmp_ne (tgt := 45) dX13_readWhole_38 (by decide) (fun h38 => absurd (by decide) h38) (fun h38 => ?_)
    refine j_iload_n dX13_readWhole_41 rfl rfl ?_
    refine j_goto (tgt := 49) dX13_readWhole_42 (by decide) ?_
    refine j_istore_n (lv2 := [_, _, _, _]) dX13_readWhole_49 rfl (by decide) rfl rfl ?_
    refine j_aload_n dX13_readWhole_50 rfl rfl ?_
    refine cV13_118 (d1 := 2) rfl dX13_readWhole_51 (by decide) (Nat.le_of_ble_eq_true rfl) ?_
    refine m_goesO hz.1 ?_
    refine j_iload_n dX13_readWhole_54 rfl rfl ?_
    refine j_iret rfl dX13_readWhole_55 ?_
    exact hp _ mi ml (FG.rfl' mi ml) hz (fun q h => by cases h)
  | inr p =>
    have h6 := sM_le (tS_le B n p)
    by_cases h2 : tS B n p = 2
    · have hv := tok_g (fun k hk => (hB.2.2 k hk).2) h2
      by_cases hb : tV B n p < lo ∨ hi < tV B n p
      · have hq : eb (.inr p) (pN B n lo hi) = .inl (4, tA B n p) := by show pN B n lo hi p = _; unfold pN; rw [if_neg (fun q => q h2), if_pos hb]
        rw [hq] at hp
        refine enter 1 (by decide) rfl rfl (fun X => ?_)
        refine j_aload_n dX13_readWhole_0 rfl rfl ?_
        refine gI13_79 rfl dX13_readWhole_1 ?_
        rw [hz.2.1.2.1, sM_3 h2]
        refine j_iconst (v := nI 3) dX13_readWhole_4 (by decide) ?_
        refine j_icmp_eq (tgt := 16) dX13_readWhole_5 (by decide) (fun h5 => ?_) (fun h5 => absurd (by decide) h5)
        refine j_aload_n dX13_readWhole_16 rfl rfl ?_
        refine gI13_105 rfl dX13_readWhole_17 ?_
        rw [hz.2.1.2.2.2.2 h2]
        refine j_iload_n dX13_readWhole_20 rfl rfl ?_
        refine j_iload_n dX13_readWhole_21 rfl rfl ?_
        refine cS13_129 (d1 := 1) dX13_readWhole_22 (by decide) (Nat.le_of_ble_eq_true rfl) ?_
        refine m_inB (hb.imp (fun q => nI_lt q (by omega)) (fun q => nI_lt q (by omega))) ?_
        refine j_if_ne (tgt := 33) dX13_readWhole_25 (by decide) (fun h25 => absurd (by decide) h25) (fun h25 => ?_)
        refine j_aload_n dX13_readWhole_28 rfl rfl ?_
        refine j_iconst (v := nI 4) dX13_readWhole_29 (by decide) ?_
        refine cV13_125 (d1 := 1) rfl dX13_readWhole_30 (by decide) (Nat.le_of_ble_eq_true rfl) ?_
        refine m_flawN (k := 4) hz (fun m1 f1 z1 => ?_)
        refine j_aload_n dX13_readWhole_33 rfl rfl ?_
        refine gI13_79 rfl dX13_readWhole_34 ?_
        rw [z1.1]
        refine j_iconst (v := nI 5) dX13_readWhole_37 (by decide) ?_
        refine j_icmp_ne (tgt := 45) dX13_readWhole_38 (by decide) (fun h38 => absurd (by decide) h38) (fun h38 => ?_)
        refine j_iload_n dX13_readWhole_41 rfl rfl ?_
        refine j_goto (tgt := 49) dX13_readWhole_42 (by decide) ?_
        refine j_istore_n (lv2 := [_, _, _, _]) dX13_readWhole_49 rfl (by decide) rfl rfl ?_
        refine j_aload_n dX13_readWhole_50 rfl rfl ?_
        refine cV13_118 (d1 := 2) rfl dX13_readWhole_51 (by decide) (Nat.le_of_ble_eq_true rfl) ?_
        refine m_goesO z1.1 ?_
        refine j_iload_n dX13_readWhole_54 rfl rfl ?_
        refine j_iret rfl dX13_readWhole_55 ?_
        exact hp _ m1 ml f1 z1 (fun q h => by cases h)
      · have hq : eb (.inr p) (pN B n lo hi) = .inr (tE B n p, tV B n p) := by show pN B n lo hi p = _; unfold pN; rw [if_neg (fun q => q h2), if_neg hb]
        rw [hq] at hp
        refine enter 1 (by decide) rfl rfl (fun X => ?_)
        refine j_aload_n dX13_readWhole_0 rfl rfl ?_
        refine gI13_79 rfl dX13_readWhole_1 ?_
        rw [hz.2.1.2.1, sM_3 h2]
        refine j_iconst (v := nI 3) dX13_readWhole_4 (by decide) ?_
        refine j_icmp_eq (tgt := 16) dX13_readWhole_5 (by decide) (fun h5 => ?_) (fun h5 => absurd (by decide) h5)
        refine j_aload_n dX13_readWhole_16 rfl rfl ?_
        refine gI13_105 rfl dX13_readWhole_17 ?_
        rw [hz.2.1.2.2.2.2 h2]
        refine j_iload_n dX13_readWhole_20 rfl rfl ?_
        refine j_iload_n dX13_readWhole_21 rfl rfl ?_
        refine cS13_129 (d1 := 1) dX13_readWhole_22 (by decide) (Nat.le_of_ble_eq_true rfl) ?_
        refine m_inG (by omega) (by omega) (by omega) ?_
        refine j_if_ne (tgt := 33) dX13_readWhole_25 (by decide) (fun h25 => ?_) (fun h25 => absurd h25 (by decide))
        refine j_aload_n dX13_readWhole_33 rfl rfl ?_
        refine gI13_79 rfl dX13_readWhole_34 ?_
        rw [hz.2.1.2.1, sM_3 h2]
        refine j_iconst (v := nI 5) dX13_readWhole_37 (by decide) ?_
        refine j_icmp_ne (tgt := 45) dX13_readWhole_38 (by decide) (fun h38 => ?_) (fun h38 => absurd h38 (by decide))
        refine j_aload_n dX13_readWhole_45 rfl rfl ?_
        refine gI13_105 rfl dX13_readWhole_46 ?_
        rw [hz.2.1.2.2.2.2 h2]
        refine j_istore_n (lv2 := [_, _, _, _]) dX13_readWhole_49 rfl (by decide) rfl rfl ?_
        refine j_aload_n dX13_readWhole_50 rfl rfl ?_
        refine cV13_118 (d1 := 2) rfl dX13_readWhole_51 (by decide) (Nat.le_of_ble_eq_true rfl) ?_
        refine m_goes hX hB hz (by omega) (fun m1 l1 f1 z1 => ?_)
        refine j_iload_n dX13_readWhole_54 rfl rfl ?_
        refine j_iret rfl dX13_readWhole_55 ?_
        exact hp _ m1 l1 f1 z1 (fun q h => by cases h; rfl)
    · have hq : eb (.inr p) (pN B n lo hi) = .inl (1, tA B n p) := by show pN B n lo hi p = _; unfold pN; rw [if_pos h2]
      rw [hq] at hp
      have hk := sM_k (tS_le B n p) h2 (by decide)
      refine enter 1 (by decide) rfl rfl (fun X => ?_)
      refine j_aload_n dX13_readWhole_0 rfl rfl ?_
      refine gI13_79 rfl dX13_readWhole_1 ?_
      rw [hz.2.1.2.1]
      refine j_iconst (v := nI 3) dX13_readWhole_4 (by decide) ?_
      refine j_icmp_eq (tgt := 16) dX13_readWhole_5 (by decide) (fun h5 => by exfalso; rw [nI_eq (by omega) (by decide)] at h5; exact hk h5) (fun h5 => ?_)
      refine j_aload_n dX13_readWhole_8 rfl rfl ?_
      refine j_iconst (v := nI 1) dX13_readWhole_9 (by decide) ?_
      refine cV13_125 (d1 := 1) rfl dX13_readWhole_10 (by decide) (Nat.le_of_ble_eq_true rfl) ?_
      refine m_flawN (k := 1) hz (fun m1 f1 z1 => ?_)
      refine j_goto (tgt := 33) dX13_readWhole_13 (by decide) ?_
      refine j_aload_n dX13_readWhole_33 rfl rfl ?_
      refine gI13_79 rfl dX13_readWhole_34 ?_
      rw [z1.1]
      refine j_iconst (v := nI 5) dX13_readWhole_37 (by decide) ?_
      refine j_icmp_ne (tgt := 45) dX13_readWhole_38 (by decide) (fun h38 => absurd (by decide) h38) (fun h38 => ?_)
      refine j_iload_n dX13_readWhole_41 rfl rfl ?_
      refine j_goto (tgt := 49) dX13_readWhole_42 (by decide) ?_
      refine j_istore_n (lv2 := [_, _, _, _]) dX13_readWhole_49 rfl (by decide) rfl rfl ?_
      refine j_aload_n dX13_readWhole_50 rfl rfl ?_
      refine cV13_118 (d1 := 2) rfl dX13_readWhole_51 (by decide) (Nat.le_of_ble_eq_true rfl) ?_
      refine m_goesO z1.1 ?_
      refine j_iload_n dX13_readWhole_54 rfl rfl ?_
      refine j_iret rfl dX13_readWhole_55 ?_
      exact hp _ m1 ml f1 z1 (fun q h => by cases h)
theorem m_readPart {i lo hi : Nat} {x : ER Nat} (hX : XM mr) (hB : RBM mi B n) (hi24 : i < 24) (hlo : lo < 2 ^ 30) (hhi : hi < 2 ^ 30) (hz : MZ mi ml B n x) (hp : ∀ (v : Int32) m l, FG mi ml m l → MZ m l B n (es Prod.fst (eb (eb x (pW B n i)) (pN B n lo hi))) → (∀ q, eb (eb x (pW B n i)) (pN B n lo hi) = .inr q → v = nI q.2) → post (some (.int v)) m l mr dom) : CT G 9 0 0 yX13_readPart cX13_readPart 4 (some .int) [.ref 1000, .ref (500 + i), .int (nI lo), .int (nI hi)] mi ml mr dom post := by
  refine enter 0 (by decide) rfl rfl (fun X => ?_)
  refine j_aload_n dX13_readPart_0 rfl rfl ?_
  refine j_aload_n dX13_readPart_1 rfl rfl ?_
  refine cV13_133 (d1 := 8) rfl dX13_readPart_2 (by decide) (Nat.le_of_ble_eq_true rfl) ?_
  refine m_needs hX hB hi24 hz (fun m1 l1 f1 z1 => ?_)
  refine j_aload_n dX13_readPart_5 rfl rfl ?_
  refine j_iload_n dX13_readPart_6 rfl rfl ?_
  refine j_iload_n dX13_readPart_7 rfl rfl ?_
  refine cV13_137 (d1 := 3) rfl dX13_readPart_8 (by decide) (Nat.le_of_ble_eq_true rfl) ?_
  refine m_readWhole hX (hB.f f1) hlo hhi z1 (fun v2 m2 l2 f2 z2 g2 => ?_)
  refine j_iret rfl dX13_readPart_11 ?_
  exact hp v2 m2 l2 (f1.tr f2) z2 g2
end M13j
