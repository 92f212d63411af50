/-! the reference: what is read -/
/-- where the reading stands: over, with a fault; or at a token -/
def MZ (mi : MI) (ml : ML) (B : Nat → Nat) (n : Nat) : ER Nat → Prop
  | .inl e => mi 1000 9 = nI 5 ∧ mi 1000 13 = nI e.1 ∧ mi 1000 14 = nI e.2
  | .inr p => p ≤ n ∧ TK mi ml B n p ∧ mi 1000 13 = nI 0
def FG (mi : MI) (ml : ML) (mi' : MI) (ml' : ML) : Prop := (∀ a, a ≠ 1000 → mi' a = mi a) ∧ (∀ a, a ≠ 1000 → ml' a = ml a) ∧ ∀ j, j < 8 ∨ 14 < j → mi' 1000 j = mi 1000 j
def es {α : Type} (f : α → Nat) (x : ER α) : ER Nat := match x with
  | .inl e => .inl e
  | .inr a => .inr (f a)
theorem sM_3 {s : Nat} (h : s = 2) : sM s = 3 := by rw [h]; rfl
theorem sM_k {s k : Nat} (h4 : s ≤ 4) (h : s ≠ k) (hk : k < 4) : ¬ sM s = k + 1 := by unfold sM; split <;> omega
theorem sM_le {s : Nat} (h4 : s ≤ 4) : sM s ≤ 4 := by unfold sM; split <;> omega
section M13j
variable {G : GG} {post : PT} {mi : MI} {ml : ML} {mr : MR} {dom : List Nat} {M : Nat} {t : TW} {B : Nat → Nat} {n p : Nat} {e : Nat × Nat}
theorem FG.rfl' (mi : MI) (ml : ML) : FG mi ml mi ml := ⟨fun _ _ => rfl, fun _ _ => rfl, fun _ _ => rfl⟩
theorem FG.tr {m m2 : MI} {l l2 : ML} (h : FG mi ml m l) (h2 : FG m l m2 l2) : FG mi ml m2 l2 := ⟨fun a x => (h2.1 a x).trans (h.1 a x), fun a x => (h2.2.1 a x).trans (h.2.1 a x), fun j x => (h2.2.2 j x).trans (h.2.2 j x)⟩
theorem FG0.fg {m : MI} {l : ML} (h : FG0 mi ml m l) : FG mi ml m l := ⟨h.1, h.2.1, fun j hj => h.2.2 j (by omega)⟩
theorem FG.pu {j : Nat} (hj : 8 ≤ j ∧ j ≤ 14) (x : Int32) : FG mi ml (up mi 1000 j x) ml := ⟨fun a ha => up_off _ _ ha, fun _ _ => rfl, fun i hi => up_ne _ _ (by omega)⟩
theorem RBM.f {m : MI} {l : ML} (h : RBM mi B n) (f : FG mi ml m l) : RBM m B n := ⟨(f.2.2 7 (by omega)).trans h.1, h.2.1, by rw [f.1 1001 (by decide)]; exact h.2.2⟩
theorem m_flawO {x : Int32} (hs : mi 1000 9 = nI 5) (hp : post none mi ml mr dom) : CT G 1 0 0 yX13_flaw cX13_flaw 2 none [.ref 1000, .int x] mi ml mr dom post := by
  refine enter 0 (by decide) rfl rfl (fun X => ?_)
  refine j_aload_n dX13_flaw_0 rfl rfl ?_
  refine gI13_79 rfl dX13_flaw_1 ?_
  rw [hs]
  refine j_iconst (v := nI 5) dX13_flaw_4 (by decide) ?_
  refine j_icmp_ne (tgt := 9) dX13_flaw_5 (by decide) (fun h5 => absurd (by decide) h5) (fun h5 => ?_)
  refine j_vret rfl dX13_flaw_8 ?_
  exact hp
theorem m_flawN {k : Nat} (h : MZ mi ml B n (.inr p)) (hp : ∀ m, FG mi ml m ml → MZ m ml B n (.inl (k, tA B n p)) → post none m ml mr dom) : CT G 1 0 0 yX13_flaw cX13_flaw 2 none [.ref 1000, .int (nI k)] mi ml mr dom post := by
  have h5 := sM_le (tS_le B n p)
  refine enter 0 (by decide) rfl rfl (fun X => ?_)
  refine j_aload_n dX13_flaw_0 rfl rfl ?_
  refine gI13_79 rfl dX13_flaw_1 ?_
  rw [h.2.1.2.1]
  refine j_iconst (v := nI 5) dX13_flaw_4 (by decide) ?_
  refine j_icmp_ne (tgt := 9) dX13_flaw_5 (by decide) (fun h5 => ?_) (fun h5 => by exfalso; rw [nI_eq (by omega) (by omega)] at h5; omega)
  refine j_aload_n dX13_flaw_9 rfl rfl ?_
  refine j_iload_n dX13_flaw_10 rfl rfl ?_
  refine pI13_108 rfl dX13_flaw_11 ?_
  refine j_aload_n dX13_flaw_14 rfl rfl ?_
  refine j_aload_n dX13_flaw_15 rfl rfl ?_
  refine gI13_88 rfl dX13_flaw_16 ?_
  rw [up_ne _ _ (by decide), h.2.1.2.2.1]
  refine pI13_111 rfl dX13_flaw_19 ?_
  refine j_aload_n dX13_flaw_22 rfl rfl ?_
  refine j_iconst (v := nI 5) dX13_flaw_23 (by decide) ?_
  refine pI13_79 rfl dX13_flaw_24 ?_
  refine j_vret rfl dX13_flaw_27 ?_
  exact hp (up (up (up mi 1000 13 (nI k)) 1000 14 (nI (tA B n p))) 1000 9 (nI 5)) (((FG.pu (ml := ml) (by omega) _).tr (FG.pu (ml := ml) (by omega) _)).tr (FG.pu (by omega) _)) ⟨up_at _ _ _ _, by rw [up_ne _ _ (by decide), up_ne _ _ (by decide), up_at], by rw [up_ne _ _ (by decide), up_at]⟩
theorem m_goes (hX : XM mr) (hB : RBM mi B n) (h : MZ mi ml B n (.inr p)) (h4 : tS B n p ≠ 4) (hp : ∀ m l, FG mi ml m l → MZ m l B n (.inr (tE B n p)) → post none m l mr dom) : CT G 2 0 0 yX13_goesOn cX13_goesOn 3 none [.ref 1000] mi ml mr dom post := by
  refine m_goesN (s := sM (tS B n p)) hX hB (h.2.1.1 h4) (tE_le B h.1) h.2.1.2.1 (by have := sM_le (tS_le B n p); omega) (fun m l f tk => hp m l f.fg ⟨tE_le B h.1, tk, by rw [f.2.2 13 (by omega)]; exact h.2.2⟩)
theorem m_isWordO {i : Nat} (hs : mi 1000 9 = nI 5) (hp : post (some (.int (nI 0))) mi ml mr dom) : CT G 7 0 0 yX13_isWord cX13_isWord 2 (some .boolean) [.ref 1000, .ref (500 + i)] mi ml mr dom post := by
  refine enter 0 (by decide) rfl rfl (fun X => ?_)
  refine j_aload_n dX13_isWord_0 rfl rfl ?_
  refine gI13_79 rfl dX13_isWord_1 ?_
  rw [hs]
  refine j_iconst (v := nI 2) dX13_isWord_4 (by decide) ?_
  refine j_icmp_ne (tgt := 24) dX13_isWord_5 (by decide) (fun h5 => ?_) (fun h5 => absurd h5 (by decide))
  refine j_iconst (v := nI 0) dX13_isWord_24 (by decide) ?_
  refine j_zret rfl (by decide) dX13_isWord_25 ?_
  exact hp
theorem m_isWord {i : Nat} (hi : i < 24) (h : MZ mi ml B n (.inr p)) (hp : post (some (.int (nI (bN (decide (tS B n p = 1 ∧ tH B n p = kc i)))))) mi ml mr dom) : CT G 7 0 0 yX13_isWord cX13_isWord 2 (some .boolean) [.ref 1000, .ref (500 + i)] mi ml mr dom post := by
  have h5 := sM_le (tS_le B n p)
  by_cases h1 : tS B n p = 1
  · refine enter 0 (by decide) rfl rfl (fun X => ?_)
    refine j_aload_n dX13_isWord_0 rfl rfl ?_
    refine gI13_79 rfl dX13_isWord_1 ?_
    rw [h.2.1.2.1, show sM (tS B n p) = 2 by rw [h1]; rfl]
    refine j_iconst (v := nI 2) dX13_isWord_4 (by decide) ?_
    refine j_icmp_ne (tgt := 24) dX13_isWord_5 (by decide) (fun h5 => absurd (by decide) h5) (fun h5 => ?_)
    refine j_aload_n dX13_isWord_8 rfl rfl ?_
    refine gL13_95 rfl dX13_isWord_9 ?_
    rw [(h.2.1.2.2.2.1 h1).1]
    refine j_aload_n dX13_isWord_12 rfl rfl ?_
    refine cS13_114 (d1 := 6) dX13_isWord_13 (by decide) (Nat.le_of_ble_eq_true rfl) ?_
    refine m_packed hi ?_
    refine j_lcmp dX13_isWord_16 ?_
    refine j_if_ne (tgt := 24) dX13_isWord_17 (by decide) (fun h17 => ?_) (fun h17 => ?_)
    · refine j_iconst (v := nI 0) dX13_isWord_24 (by decide) ?_
      refine j_zret rfl (by decide) dX13_isWord_25 ?_
      rw [cmp0] at h17
      first
        | (rw [decide_eq_true ⟨h1, h17⟩] at hp; exact hp)
        | (rw [decide_eq_false (fun q => h17 q.2)] at hp; exact hp)
    · refine j_iconst (v := nI 1) dX13_isWord_20 (by decide) ?_
      refine j_goto (tgt := 25) dX13_isWord_21 (by decide) ?_
      refine j_zret rfl (by decide) dX13_isWord_25 ?_
      rw [cmp0] at h17
      first
        | (rw [decide_eq_true ⟨h1, h17⟩] at hp; exact hp)
        | (rw [decide_eq_false (fun q => h17 q.2)] at hp; exact hp)
  · rw [decide_eq_false (fun q => h1 q.1)] at hp
    have hk := sM_k (tS_le B n p) h1 (by decide)
    refine enter 0 (by decide) rfl rfl (fun X => ?_)
    refine j_aload_n dX13_isWord_0 rfl rfl ?_
    refine gI13_79 rfl dX13_isWord_1 ?_
    rw [h.2.1.2.1]
    refine j_iconst (v := nI 2) dX13_isWord_4 (by decide) ?_
    refine j_icmp_ne (tgt := 24) dX13_isWord_5 (by decide) (fun h55 => ?_) (fun h55 => by exfalso; rw [nI_eq (by omega) (by decide)] at h55; exact hk h55)
    refine j_iconst (v := nI 0) dX13_isWord_24 (by decide) ?_
    refine j_zret rfl (by decide) dX13_isWord_25 ?_
    exact hp
theorem m_eatO (hs : mi 1000 9 = nI 5) (hp : post (some (.int (nI 0))) mi ml mr dom) : CT G 3 0 0 yX13_eatsSemicolon cX13_eatsSemicolon 2 (some .boolean) [.ref 1000] mi ml mr dom post := by
  refine enter 1 (by decide) rfl rfl (fun X => ?_)
  refine j_aload_n dX13_eatsSemicolon_0 rfl rfl ?_
  refine gI13_79 rfl dX13_eatsSemicolon_1 ?_
  rw [hs]
  refine j_iconst (v := nI 4) dX13_eatsSemicolon_4 (by decide) ?_
  refine j_icmp_ne (tgt := 12) dX13_eatsSemicolon_5 (by decide) (fun h5 => ?_) (fun h5 => absurd h5 (by decide))
  refine j_iconst (v := nI 0) dX13_eatsSemicolon_12 (by decide) ?_
  refine j_istore_n (lv2 := [_, _]) dX13_eatsSemicolon_13 rfl (by decide) rfl rfl ?_
  refine j_iload_n dX13_eatsSemicolon_14 rfl rfl ?_
  refine j_if_eq (tgt := 22) dX13_eatsSemicolon_15 (by decide) (fun h15 => ?_) (fun h15 => absurd (by decide) h15)
  refine j_iload_n dX13_eatsSemicolon_22 rfl rfl ?_
  refine j_zret rfl (by decide) dX13_eatsSemicolon_23 ?_
  exact hp
theorem m_eatN (h : MZ mi ml B n (.inr p)) (h3 : tS B n p ≠ 3) (hp : post (some (.int (nI 0))) mi ml mr dom) : CT G 3 0 0 yX13_eatsSemicolon cX13_eatsSemicolon 2 (some .boolean) [.ref 1000] mi ml mr dom post := by
  have h6 := sM_le (tS_le B n p)
  have hk := sM_k (tS_le B n p) h3 (by decide)
  refine enter 1 (by decide) rfl rfl (fun X => ?_)
  refine j_aload_n dX13_eatsSemicolon_0 rfl rfl ?_
  refine gI13_79 rfl dX13_eatsSemicolon_1 ?_
  rw [h.2.1.2.1]
  refine j_iconst (v := nI 4) dX13_eatsSemicolon_4 (by decide) ?_
  refine j_icmp_ne (tgt := 12) dX13_eatsSemicolon_5 (by decide) (fun h5 => ?_) (fun h5 => by exfalso; rw [nI_eq (by omega) (by decide)] at h5; exact hk h5)
  refine j_iconst (v := nI 0) dX13_eatsSemicolon_12 (by decide) ?_
  refine j_istore_n (lv2 := [_, _]) dX13_eatsSemicolon_13 rfl (by decide) rfl rfl ?_
  refine j_iload_n dX13_eatsSemicolon_14 rfl rfl ?_
  refine j_if_eq (tgt := 22) dX13_eatsSemicolon_15 (by decide) (fun h15 => ?_) (fun h15 => absurd (by decide) h15)
  refine j_iload_n dX13_eatsSemicolon_22 rfl rfl ?_
  refine j_zret rfl (by decide) dX13_eatsSemicolon_23 ?_
  exact hp
theorem m_eatY (hX : XM mr) (hB : RBM mi B n) (h : MZ mi ml B n (.inr p)) (h3 : tS B n p = 3) (hp : ∀ m l, FG mi ml m l → MZ m l B n (.inr (tE B n p)) → post (some (.int (nI 1))) m l mr dom) : CT G 3 0 0 yX13_eatsSemicolon cX13_eatsSemicolon 2 (some .boolean) [.ref 1000] mi ml mr dom post := by
  refine enter 1 (by decide) rfl rfl (fun X => ?_)
  refine j_aload_n dX13_eatsSemicolon_0 rfl rfl ?_
  refine gI13_79 rfl dX13_eatsSemicolon_1 ?_
  rw [h.2.1.2.1, show sM (tS B n p) = 4 by rw [h3]; rfl]
  refine j_iconst (v := nI 4) dX13_eatsSemicolon_4 (by decide) ?_
  refine j_icmp_ne (tgt := 12) dX13_eatsSemicolon_5 (by decide) (fun h5 => absurd (by decide) h5) (fun h5 => ?_)
  refine j_iconst (v := nI 1) dX13_eatsSemicolon_8 (by decide) ?_
  refine j_goto (tgt := 13) dX13_eatsSemicolon_9 (by decide) ?_
  refine j_istore_n (lv2 := [_, _]) dX13_eatsSemicolon_13 rfl (by decide) rfl rfl ?_
  refine j_iload_n dX13_eatsSemicolon_14 rfl rfl ?_
  refine j_if_eq (tgt := 22) dX13_eatsSemicolon_15 (by decide) (fun h15 => absurd h15 (by decide)) (fun h15 => ?_)
  refine j_aload_n dX13_eatsSemicolon_18 rfl rfl ?_
  refine cV13_118 (d1 := 2) rfl dX13_eatsSemicolon_19 (by decide) (Nat.le_of_ble_eq_true rfl) ?_
  refine m_goes hX hB h (by omega) (fun m1 l1 f1 z1 => ?_)
  refine j_iload_n dX13_eatsSemicolon_22 rfl rfl ?_
  refine j_zret rfl (by decide) dX13_eatsSemicolon_23 ?_
  exact hp m1 l1 f1 z1
theorem m_needs {i : Nat} {x : ER Nat} (hX : XM mr) (hB : RBM mi B n) (hi : i < 24) (hz : MZ mi ml B n x) (hp : ∀ m l, FG mi ml m l → MZ m l B n (eb x (pW B n i)) → post none m l mr dom) : CT G 8 0 0 yX13_needs cX13_needs 2 none [.ref 1000, .ref (500 + i)] mi ml mr dom post := by
  cases x with
  | inl e =>
    refine enter 0 (by decide) rfl rfl (fun X => ?_)
    refine j_aload_n dX13_needs_0 rfl rfl ?_
    refine j_aload_n dX13_needs_1 rfl rfl ?_
    refine cV13_121 (d1 := 7) rfl dX13_needs_2 (by decide) (Nat.le_of_ble_eq_true rfl) ?_
    refine m_isWordO hz.1 ?_
    refine j_if_ne (tgt := 13) dX13_needs_5 (by decide) (fun h5 => absurd (by decide) h5) (fun h5 => ?_)
    refine j_aload_n dX13_needs_8 rfl rfl ?_
    refine j_iconst (v := nI 1) dX13_needs_9 (by decide) ?_
    refine cV13_125 (d1 := 1) rfl dX13_needs_10 (by decide) (Nat.le_of_ble_eq_true rfl) ?_
    refine m_flawO hz.1 ?_
    refine j_aload_n dX13_needs_13 rfl rfl ?_
    refine cV13_118 (d1 := 2) rfl dX13_needs_14 (by decide) (Nat.le_of_ble_eq_true rfl) ?_
    refine m_goesO hz.1 ?_
    refine j_vret rfl dX13_needs_17 ?_
    exact hp mi ml (FG.rfl' mi ml) hz
  | inr p =>
    by_cases hc : tS B n p = 1 ∧ tH B n p = kc i
    · have hq : eb (.inr p) (pW B n i) = .inr (tE B n p) := if_pos hc
      rw [hq] at hp
      have hc1 := hc.1
      refine enter 0 (by decide) rfl rfl (fun X => ?_)
      refine j_aload_n dX13_needs_0 rfl rfl ?_
      refine j_aload_n dX13_needs_1 rfl rfl ?_
      refine cV13_121 (d1 := 7) rfl dX13_needs_2 (by decide) (Nat.le_of_ble_eq_true rfl) ?_
      refine m_isWord hi hz ?_
      rw [decide_eq_true hc]
      show J _ _ _ _ _ _ _ _ _ _ _ _ _ _ _ _ _ (.int (nI 1) :: _)
      refine j_if_ne (tgt := 13) dX13_needs_5 (by decide) (fun h5 => ?_) (fun h5 => absurd h5 (by decide))
      refine j_aload_n dX13_needs_13 rfl rfl ?_
      refine cV13_118 (d1 := 2) rfl dX13_needs_14 (by decide) (Nat.le_of_ble_eq_true rfl) ?_
      refine m_goes hX hB hz (by omega) (fun m1 l1 f1 z1 => ?_)
      refine j_vret rfl dX13_needs_17 ?_
      exact hp m1 l1 f1 z1
    · have hq : eb (.inr p) (pW B n i) = .inl (1, tA B n p) := if_neg hc
      rw [hq] at hp
      refine enter 0 (by decide) rfl rfl (fun X => ?_)
      refine j_aload_n dX13_needs_0 rfl rfl ?_
      refine j_aload_n dX13_needs_1 rfl rfl ?_
      refine cV13_121 (d1 := 7) rfl dX13_needs_2 (by decide) (Nat.le_of_ble_eq_true rfl) ?_
      refine m_isWord hi hz ?_
      rw [decide_eq_false hc]
      show J _ _ _ _ _ _ _ _ _ _ _ _ _ _ _ _ _ (.int (nI 0) :: _)
      refine j_if_ne (tgt := 13) dX13_needs_5 (by decide) (fun h5 => absurd (by decide) h5) (fun h5 => ?_)
      refine j_aload_n dX13_needs_8 rfl rfl ?_
      refine j_iconst (v := nI 1) dX13_needs_9 (by decide) ?_
      refine cV13_125 (d1 := 1) rfl dX13_needs_10 (by decide) (Nat.le_of_ble_eq_true rfl) ?_
      refine m_flawN (k := 1) hz (fun m1 f1 z1 => ?_)
      refine j_aload_n dX13_needs_13 rfl rfl ?_
      refine cV13_118 (d1 := 2) rfl dX13_needs_14 (by decide) (Nat.le_of_ble_eq_true rfl) ?_
      refine m_goesO z1.1 ?_
      refine j_vret rfl dX13_needs_17 ?_
      exact hp m1 ml f1 z1
theorem m_readWhole {lo hi : Nat} {x : ER Nat} (hX : XM mr) (hB : RBM mi B n) (hlo : lo < 2 ^ 30) (hhi : hi < 2 ^ 30) (hz : MZ mi ml B n x) (hp : ∀ (v : Int32) m l, FG mi ml m l → MZ m l B n (es Prod.fst (eb x (pN B n lo hi))) → (∀ q, eb x (pN B n lo hi) = .inr q → v = nI q.2) → post (some (.int v)) m l mr dom) : CT G 3 0 0 yX13_readWhole cX13_readWhole 4 (some .int) [.ref 1000, .int (nI lo), .int (nI hi)] mi ml mr dom post := by
  cases x with
  | inl e =>
    refine enter 1 (by decide) rfl rfl (fun X => ?_)
    refine j_aload_n dX13_readWhole_0 rfl rfl ?_
    refine gI13_79 rfl dX13_readWhole_1 ?_
    rw [hz.1]
    refine j_iconst (v := nI 3) dX13_readWhole_4 (by decide) ?_
    refine j_icmp_eq (tgt := 16) dX13_readWhole_5 (by decide) (fun h5 => absurd h5 (by decide)) (fun h5 => ?_)
    refine j_aload_n dX13_readWhole_8 rfl rfl ?_
    refine j_iconst (v := nI 1) dX13_readWhole_9 (by decide) ?_
    refine cV13_125 (d1 := 1) rfl dX13_readWhole_10 (by decide) (Nat.le_of_ble_eq_true rfl) ?_
    refine m_flawO hz.1 ?_
    refine j_goto (tgt := 33) dX13_readWhole_13 (by decide) ?_
    refine j_aload_n dX13_readWhole_33 rfl rfl ?_
    refine gI13_79 rfl dX13_readWhole_34 ?_
    rw [hz.1]
    refine j_iconst (v := nI 5) dX13_readWhole_37 (by decide) ?_
    refine j_icmp_ne (tgt := 45) dX13_readWhole_38 (by decide) (fun h38 => absurd (by decide) h38) (fun h38 => ?_)
    refine j_iload_n dX13_readWhole_41 rfl rfl ?_
    refine j_goto (tgt := 49) dX13_readWhole_42 (by decide) ?_
    refine j_istore_n (lv2 := [_, _, _, _]) dX13_readWhole_49 rfl (by decide) rfl rfl ?_
    refine j_aload_n dX13_readWhole_50 rfl rfl ?_
    refine cV13_118 (d1 := 2) rfl dX13_readWhole_51 (by decide) (Nat.le_of_ble_eq_true rfl) ?_
    refine m_goesO hz.1 ?_
    refine j_iload_n dX13_readWhole_54 rfl rfl ?_
    refine j_iret rfl dX13_readWhole_55 ?_
    exact hp _ mi ml (FG.rfl' mi ml) hz (fun q h => by cases h)
  | inr p =>
    have h6 := sM_le (tS_le B n p)
    by_cases h2 : tS B n p = 2
    · have hv := tok_g (fun k hk => (hB.2.2 k hk).2) h2
      by_cases hb : tV B n p < lo ∨ hi < tV B n p
      · have hq : eb (.inr p) (pN B n lo hi) = .inl (4, tA B n p) := by show pN B n lo hi p = _; unfold pN; rw [if_neg (fun q => q h2), if_pos hb]
        rw [hq] at hp
        refine enter 1 (by decide) rfl rfl (fun X => ?_)
        refine j_aload_n dX13_readWhole_0 rfl rfl ?_
        refine gI13_79 rfl dX13_readWhole_1 ?_
        rw [hz.2.1.2.1, sM_3 h2]
        refine j_iconst (v := nI 3) dX13_readWhole_4 (by decide) ?_
        refine j_icmp_eq (tgt := 16) dX13_readWhole_5 (by decide) (fun h5 => ?_) (fun h5 => absurd (by decide) h5)
        refine j_aload_n dX13_readWhole_16 rfl rfl ?_
        refine gI13_105 rfl dX13_readWhole_17 ?_
        rw [hz.2.1.2.2.2.2 h2]
        refine j_iload_n dX13_readWhole_20 rfl rfl ?_
        refine j_iload_n dX13_readWhole_21 rfl rfl ?_
        refine cS13_129 (d1 := 1) dX13_readWhole_22 (by decide) (Nat.le_of_ble_eq_true rfl) ?_
        refine m_inB (hb.imp (fun q => nI_lt q (by omega)) (fun q => nI_lt q (by omega))) ?_
        refine j_if_ne (tgt := 33) dX13_readWhole_25 (by decide) (fun h25 => absurd (by decide) h25) (fun h25 => ?_)
        refine j_aload_n dX13_readWhole_28 rfl rfl ?_
        refine j_iconst (v := nI 4) dX13_readWhole_29 (by decide) ?_
        refine cV13_125 (d1 := 1) rfl dX13_readWhole_30 (by decide) (Nat.le_of_ble_eq_true rfl) ?_
        refine m_flawN (k := 4) hz (fun m1 f1 z1 => ?_)
        refine j_aload_n dX13_readWhole_33 rfl rfl ?_
        refine gI13_79 rfl dX13_readWhole_34 ?_
        rw [z1.1]
        refine j_iconst (v := nI 5) dX13_readWhole_37 (by decide) ?_
        refine j_icmp_ne (tgt := 45) dX13_readWhole_38 (by decide) (fun h38 => absurd (by decide) h38) (fun h38 => ?_)
        refine j_iload_n dX13_readWhole_41 rfl rfl ?_
        refine j_goto (tgt := 49) dX13_readWhole_42 (by decide) ?_
        refine j_istore_n (lv2 := [_, _, _, _]) dX13_readWhole_49 rfl (by decide) rfl rfl ?_
        refine j_aload_n dX13_readWhole_50 rfl rfl ?_
        refine cV13_118 (d1 := 2) rfl dX13_readWhole_51 (by decide) (Nat.le_of_ble_eq_true rfl) ?_
        refine m_goesO z1.1 ?_
        refine j_iload_n dX13_readWhole_54 rfl rfl ?_
        refine j_iret rfl dX13_readWhole_55 ?_
        exact hp _ m1 ml f1 z1 (fun q h => by cases h)
      · have hq : eb (.inr p) (pN B n lo hi) = .inr (tE B n p, tV B n p) := by show pN B n lo hi p = _; unfold pN; rw [if_neg (fun q => q h2), if_neg hb]
        rw [hq] at hp
        refine enter 1 (by decide) rfl rfl (fun X => ?_)
        refine j_aload_n dX13_readWhole_0 rfl rfl ?_
        refine gI13_79 rfl dX13_readWhole_1 ?_
        rw [hz.2.1.2.1, sM_3 h2]
        refine j_iconst (v := nI 3) dX13_readWhole_4 (by decide) ?_
        refine j_icmp_eq (tgt := 16) dX13_readWhole_5 (by decide) (fun h5 => ?_) (fun h5 => absurd (by decide) h5)
        refine j_aload_n dX13_readWhole_16 rfl rfl ?_
        refine gI13_105 rfl dX13_readWhole_17 ?_
        rw [hz.2.1.2.2.2.2 h2]
        refine j_iload_n dX13_readWhole_20 rfl rfl ?_
        refine j_iload_n dX13_readWhole_21 rfl rfl ?_
        refine cS13_129 (d1 := 1) dX13_readWhole_22 (by decide) (Nat.le_of_ble_eq_true rfl) ?_
        refine m_inG (by omega) (by omega) (by omega) ?_
        refine j_if_ne (tgt := 33) dX13_readWhole_25 (by decide) (fun h25 => ?_) (fun h25 => absurd h25 (by decide))
        refine j_aload_n dX13_readWhole_33 rfl rfl ?_
        refine gI13_79 rfl dX13_readWhole_34 ?_
        rw [hz.2.1.2.1, sM_3 h2]
        refine j_iconst (v := nI 5) dX13_readWhole_37 (by decide) ?_
        refine j_icmp_ne (tgt := 45) dX13_readWhole_38 (by decide) (fun h38 => ?_) (fun h38 => absurd h38 (by decide))
        refine j_aload_n dX13_readWhole_45 rfl rfl ?_
        refine gI13_105 rfl dX13_readWhole_46 ?_
        rw [hz.2.1.2.2.2.2 h2]
        refine j_istore_n (lv2 := [_, _, _, _]) dX13_readWhole_49 rfl (by decide) rfl rfl ?_
        refine j_aload_n dX13_readWhole_50 rfl rfl ?_
        refine cV13_118 (d1 := 2) rfl dX13_readWhole_51 (by decide) (Nat.le_of_ble_eq_true rfl) ?_
        refine m_goes hX hB hz (by omega) (fun m1 l1 f1 z1 => ?_)
        refine j_iload_n dX13_readWhole_54 rfl rfl ?_
        refine j_iret rfl dX13_readWhole_55 ?_
        exact hp _ m1 l1 f1 z1 (fun q h => by cases h; rfl)
    · have hq : eb (.inr p) (pN B n lo hi) = .inl (1, tA B n p) := by show pN B n lo hi p = _; unfold pN; rw [if_pos h2]
      rw [hq] at hp
      have hk := sM_k (tS_le B n p) h2 (by decide)
      refine enter 1 (by decide) rfl rfl (fun X => ?_)
      refine j_aload_n dX13_readWhole_0 rfl rfl ?_
      refine gI13_79 rfl dX13_readWhole_1 ?_
      rw [hz.2.1.2.1]
      refine j_iconst (v := nI 3) dX13_readWhole_4 (by decide) ?_
      refine j_icmp_eq (tgt := 16) dX13_readWhole_5 (by decide) (fun h5 => by exfalso; rw [nI_eq (by omega) (by decide)] at h5; exact hk h5) (fun h5 => ?_)
      refine j_aload_n dX13_readWhole_8 rfl rfl ?_
      refine j_iconst (v := nI 1) dX13_readWhole_9 (by decide) ?_
      refine cV13_125 (d1 := 1) rfl dX13_readWhole_10 (by decide) (Nat.le_of_ble_eq_true rfl) ?_
      refine m_flawN (k := 1) hz (fun m1 f1 z1 => ?_)
      refine j_goto (tgt := 33) dX13_readWhole_13 (by decide) ?_
      refine j_aload_n dX13_readWhole_33 rfl rfl ?_
      refine gI13_79 rfl dX13_readWhole_34 ?_
      rw [z1.1]
      refine j_iconst (v := nI 5) dX13_readWhole_37 (by decide) ?_
      refine j_icmp_ne (tgt := 45) dX13_readWhole_38 (by decide) (fun h38 => absurd (by decide) h38) (fun h38 => ?_)
      refine j_iload_n dX13_readWhole_41 rfl rfl ?_
      refine j_goto (tgt := 49) dX13_readWhole_42 (by decide) ?_
      refine j_istore_n (lv2 := [_, _, _, _]) dX13_readWhole_49 rfl (by decide) rfl rfl ?_
      refine j_aload_n dX13_readWhole_50 rfl rfl ?_
      refine cV13_118 (d1 := 2) rfl dX13_readWhole_51 (by decide) (Nat.le_of_ble_eq_true rfl) ?_
      refine m_goesO z1.1 ?_
      refine j_iload_n dX13_readWhole_54 rfl rfl ?_
      refine j_iret rfl dX13_readWhole_55 ?_
      exact hp _ m1 ml f1 z1 (fun q h => by cases h)
theorem m_readPart {i lo hi : Nat} {x : ER Nat} (hX : XM mr) (hB : RBM mi B n) (hi24 : i < 24) (hlo : lo < 2 ^ 30) (hhi : hi < 2 ^ 30) (hz : MZ mi ml B n x) (hp : ∀ (v : Int32) m l, FG mi ml m l → MZ m l B n (es Prod.fst (eb (eb x (pW B n i)) (pN B n lo hi))) → (∀ q, eb (eb x (pW B n i)) (pN B n lo hi) = .inr q → v = nI q.2) → post (some (.int v)) m l mr dom) : CT G 9 0 0 yX13_readPart cX13_readPart 4 (some .int) [.ref 1000, .ref (500 + i), .int (nI lo), .int (nI hi)] mi ml mr dom post := by
  refine enter 0 (by decide) rfl rfl (fun X => ?_)
  refine j_aload_n dX13_readPart_0 rfl rfl ?_
  refine j_aload_n dX13_readPart_1 rfl rfl ?_
  refine cV13_133 (d1 := 8) rfl dX13_readPart_2 (by decide) (Nat.le_of_ble_eq_true rfl) ?_
  refine m_needs hX hB hi24 hz (fun m1 l1 f1 z1 => ?_)
  refine j_aload_n dX13_readPart_5 rfl rfl ?_
  refine j_iload_n dX13_readPart_6 rfl rfl ?_
  refine j_iload_n dX13_readPart_7 rfl rfl ?_
  refine cV13_137 (d1 := 3) rfl dX13_readPart_8 (by decide) (Nat.le_of_ble_eq_true rfl) ?_
  refine m_readWhole hX (hB.f f1) hlo hhi z1 (fun v2 m2 l2 f2 z2 g2 => ?_)
  refine j_iret rfl dX13_readPart_11 ?_
  exact hp v2 m2 l2 (f1.tr f2) z2 g2
/-- the names that the reference has -/
def smc (s : Nat) : Nat := if s = 1 then 0 else if s = 3 then 1 else 2
def RNM (mi : MI) (ml : ML) (M : Nat) (N : NS) : Prop := N.1 ≤ 17 ∧ mi M 9 = nI N.1 ∧ ∀ k, k < N.1 → ml (M + 17) k = N.2.1 k ∧ mi (M + 18) k = nI (smc (N.2.2.1 k)) ∧ mi (M + 19) k = nI (N.2.2.2 k)
theorem smc_le (s : Nat) : smc s ≤ 2 := by unfold smc; split; omega; split <;> omega
theorem RNM.f {m : MI} {l : ML} {N : NS} (hM : MM M) (h : RNM mi ml M N) (f : FG mi ml m l) : RNM m l M N := by
  have hge := hM.ge
  unfold RNM
  rw [f.1 M (by omega), f.1 (M + 18) (by omega), f.1 (M + 19) (by omega), f.2.1 (M + 17) (by omega)]; exact h
theorem lsN_lt {i : Nat} (hi : i < 7) (h1 : tS B n p = 1) (h2 : tH B n p = kc i) : lsN B n p < 7 := by
  have h7 : lsN B n p ≤ 7 := rq_le _ _ _ (by decide)
  by_cases q : lsN B n p = 7
  · have := (rq_in (fun k => !(decide (tS B n p = 1) && decide (tH B n p = kc k))) 7 0 i (Nat.zero_le _) (show i < lsN B n p by omega)).1
    rw [decide_eq_true h1, decide_eq_true h2] at this
    exact absurd this (by decide)
  · omega
theorem lsN_7 (h : ∀ i, i < 7 → ¬ (tS B n p = 1 ∧ tH B n p = kc i)) : lsN B n p = 7 := by
  have h7 : lsN B n p ≤ 7 := rq_le _ _ _ (by decide)
  by_cases q : lsN B n p < 7
  · have := rq_stop (fun k => !(decide (tS B n p = 1) && decide (tH B n p = kc k))) 7 0 q
    have h2 := h _ q
    rw [Bool.not_eq_false', Bool.and_eq_true, decide_eq_true_eq, decide_eq_true_eq] at this
    exact absurd this h2
  · omega
theorem m_isNameO (hs : mi 1000 9 = nI 5) (hp : post (some (.int (nI 0))) mi ml mr dom) : CT G 8 0 0 yX13_isName cX13_isName 1 (some .boolean) [.ref 1000] mi ml mr dom post := by
  refine enter 0 (by decide) rfl rfl (fun X => ?_)
  refine j_aload_n dX13_isName_0 rfl rfl ?_
  refine gI13_79 rfl dX13_isName_1 ?_
  rw [hs]
  refine j_iconst (v := nI 2) dX13_isName_4 (by decide) ?_
  refine j_icmp_ne (tgt := 44) dX13_isName_5 (by decide) (fun h5 => ?_) (fun h5 => absurd h5 (by decide))
  refine j_iconst (v := nI 0) dX13_isName_44 (by decide) ?_
  refine j_zret rfl (by decide) dX13_isName_45 ?_
  exact hp
theorem m_isName (hz : MZ mi ml B n (.inr p)) (hp : post (some (.int (nI (bN (decide (tS B n p = 1 ∧ lsN B n p = 7)))))) mi ml mr dom) : CT G 8 0 0 yX13_isName cX13_isName 1 (some .boolean) [.ref 1000] mi ml mr dom post := by
  have h6 := sM_le (tS_le B n p)
  by_cases h1 : tS B n p = 1
  · refine enter 0 (by decide) rfl rfl (fun X => ?_)
    refine j_aload_n dX13_isName_0 rfl rfl ?_
    refine gI13_79 rfl dX13_isName_1 ?_
    rw [hz.2.1.2.1, show sM (tS B n p) = 2 by rw [h1]; rfl]
    refine j_iconst (v := nI 2) dX13_isName_4 (by decide) ?_
    refine j_icmp_ne (tgt := 44) dX13_isName_5 (by decide) (fun h5 => absurd (by decide) h5) (fun h5 => ?_)
    refine j_aload_n dX13_isName_8 rfl rfl ?_
    refine j_ldcS13_143 dX13_isName_9 ?_
    refine cV13_121 (d1 := 7) rfl dX13_isName_11 (by decide) (Nat.le_of_ble_eq_true rfl) ?_
    refine m_isWord (i := 0) (by decide) hz ?_
    refine j_if_ne (tgt := 44) dX13_isName_14 (by decide) (fun h14 => ?_) (fun h14 => ?_)
    all_goals rw [bN_eq0] at h14
    · refine j_iconst (v := nI 0) dX13_isName_44 (by decide) ?_
      refine j_zret rfl (by decide) dX13_isName_45 ?_
      have hlt : lsN B n p < 7 := by
        first
          | (rw [Bool.not_eq_false, decide_eq_true_eq] at h70; exact lsN_lt (i := 6) (by decide) h1 h70.2)
          | (rw [Bool.not_eq_false, decide_eq_true_eq] at h61; exact lsN_lt (i := 5) (by decide) h1 h61.2)
          | (rw [Bool.not_eq_false, decide_eq_true_eq] at h52; exact lsN_lt (i := 4) (by decide) h1 h52.2)
          | (rw [Bool.not_eq_false, decide_eq_true_eq] at h41; exact lsN_lt (i := 3) (by decide) h1 h41.2)
          | (rw [Bool.not_eq_false, decide_eq_true_eq] at h32; exact lsN_lt (i := 2) (by decide) h1 h32.2)
          | (rw [Bool.not_eq_false, decide_eq_true_eq] at h23; exact lsN_lt (i := 1) (by decide) h1 h23.2)
          | (rw [Bool.not_eq_false, decide_eq_true_eq] at h14; exact lsN_lt (i := 0) (by decide) h1 h14.2)
      rw [decide_eq_false (fun q => absurd q.2 (by omega))] at hp; exact hp
    · refine j_aload_n dX13_isName_17 rfl rfl ?_
      refine j_ldcS13_145 dX13_isName_18 ?_
      refine cV13_121 (d1 := 7) rfl dX13_isName_20 (by decide) (Nat.le_of_ble_eq_true rfl) ?_
      refine m_isWord (i := 1) (by decide) hz ?_
      refine j_if_ne (tgt := 44) dX13_isName_23 (by decide) (fun h23 => ?_) (fun h23 => ?_)
      all_goals rw [bN_eq0] at h23
      · refine j_iconst (v := nI 0) dX13_isName_44 (by decide) ?_
        refine j_zret rfl (by decide) dX13_isName_45 ?_
        have hlt : lsN B n p < 7 := by
          first
            | (rw [Bool.not_eq_false, decide_eq_true_eq] at h70; exact lsN_lt (i := 6) (by decide) h1 h70.2)
            | (rw [Bool.not_eq_false, decide_eq_true_eq] at h61; exact lsN_lt (i := 5) (by decide) h1 h61.2)
            | (rw [Bool.not_eq_false, decide_eq_true_eq] at h52; exact lsN_lt (i := 4) (by decide) h1 h52.2)
            | (rw [Bool.not_eq_false, decide_eq_true_eq] at h41; exact lsN_lt (i := 3) (by decide) h1 h41.2)
            | (rw [Bool.not_eq_false, decide_eq_true_eq] at h32; exact lsN_lt (i := 2) (by decide) h1 h32.2)
            | (rw [Bool.not_eq_false, decide_eq_true_eq] at h23; exact lsN_lt (i := 1) (by decide) h1 h23.2)
            | (rw [Bool.not_eq_false, decide_eq_true_eq] at h14; exact lsN_lt (i := 0) (by decide) h1 h14.2)
        rw [decide_eq_false (fun q => absurd q.2 (by omega))] at hp; exact hp
      · refine j_aload_n dX13_isName_26 rfl rfl ?_
        refine j_ldcS13_147 dX13_isName_27 ?_
        refine cV13_121 (d1 := 7) rfl dX13_isName_29 (by decide) (Nat.le_of_ble_eq_true rfl) ?_
        refine m_isWord (i := 2) (by decide) hz ?_
        refine j_if_ne (tgt := 44) dX13_isName_32 (by decide) (fun h32 => ?_) (fun h32 => ?_)
        all_goals rw [bN_eq0] at h32
        · refine j_iconst (v := nI 0) dX13_isName_44 (by decide) ?_
          refine j_zret rfl (by decide) dX13_isName_45 ?_
          have hlt : lsN B n p < 7 := by
            first
              | (rw [Bool.not_eq_false, decide_eq_true_eq] at h70; exact lsN_lt (i := 6) (by decide) h1 h70.2)
              | (rw [Bool.not_eq_false, decide_eq_true_eq] at h61; exact lsN_lt (i := 5) (by decide) h1 h61.2)
              | (rw [Bool.not_eq_false, decide_eq_true_eq] at h52; exact lsN_lt (i := 4) (by decide) h1 h52.2)
              | (rw [Bool.not_eq_false, decide_eq_true_eq] at h41; exact lsN_lt (i := 3) (by decide) h1 h41.2)
              | (rw [Bool.not_eq_false, decide_eq_true_eq] at h32; exact lsN_lt (i := 2) (by decide) h1 h32.2)
              | (rw [Bool.not_eq_false, decide_eq_true_eq] at h23; exact lsN_lt (i := 1) (by decide) h1 h23.2)
              | (rw [Bool.not_eq_false, decide_eq_true_eq] at h14; exact lsN_lt (i := 0) (by decide) h1 h14.2)
          rw [decide_eq_false (fun q => absurd q.2 (by omega))] at hp; exact hp
        · refine j_aload_n dX13_isName_35 rfl rfl ?_
          refine j_ldcS13_149 dX13_isName_36 ?_
          refine cV13_121 (d1 := 7) rfl dX13_isName_38 (by decide) (Nat.le_of_ble_eq_true rfl) ?_
          refine m_isWord (i := 3) (by decide) hz ?_
          refine j_if_eq (tgt := 46) dX13_isName_41 (by decide) (fun h41 => ?_) (fun h41 => ?_)
          all_goals rw [bN_eq0] at h41
          · refine j_aload_n dX13_isName_46 rfl rfl ?_
            refine j_ldcS13_151 dX13_isName_47 ?_
            refine cV13_121 (d1 := 7) rfl dX13_isName_49 (by decide) (Nat.le_of_ble_eq_true rfl) ?_
            refine m_isWord (i := 4) (by decide) hz ?_
            refine j_if_ne (tgt := 77) dX13_isName_52 (by decide) (fun h52 => ?_) (fun h52 => ?_)
            all_goals rw [bN_eq0] at h52
            · refine j_iconst (v := nI 0) dX13_isName_77 (by decide) ?_
              refine j_zret rfl (by decide) dX13_isName_78 ?_
              have hlt : lsN B n p < 7 := by
                first
                  | (rw [Bool.not_eq_false, decide_eq_true_eq] at h70; exact lsN_lt (i := 6) (by decide) h1 h70.2)
                  | (rw [Bool.not_eq_false, decide_eq_true_eq] at h61; exact lsN_lt (i := 5) (by decide) h1 h61.2)
                  | (rw [Bool.not_eq_false, decide_eq_true_eq] at h52; exact lsN_lt (i := 4) (by decide) h1 h52.2)
                  | (rw [Bool.not_eq_false, decide_eq_true_eq] at h41; exact lsN_lt (i := 3) (by decide) h1 h41.2)
                  | (rw [Bool.not_eq_false, decide_eq_true_eq] at h32; exact lsN_lt (i := 2) (by decide) h1 h32.2)
                  | (rw [Bool.not_eq_false, decide_eq_true_eq] at h23; exact lsN_lt (i := 1) (by decide) h1 h23.2)
                  | (rw [Bool.not_eq_false, decide_eq_true_eq] at h14; exact lsN_lt (i := 0) (by decide) h1 h14.2)
              rw [decide_eq_false (fun q => absurd q.2 (by omega))] at hp; exact hp
            · refine j_aload_n dX13_isName_55 rfl rfl ?_
              refine j_ldcS13_153 dX13_isName_56 ?_
              refine cV13_121 (d1 := 7) rfl dX13_isName_58 (by decide) (Nat.le_of_ble_eq_true rfl) ?_
              refine m_isWord (i := 5) (by decide) hz ?_
              refine j_if_ne (tgt := 77) dX13_isName_61 (by decide) (fun h61 => ?_) (fun h61 => ?_)
              all_goals rw [bN_eq0] at h61
              · refine j_iconst (v := nI 0) dX13_isName_77 (by decide) ?_
                refine j_zret rfl (by decide) dX13_isName_78 ?_
                have hlt : lsN B n p < 7 := by
                  first
                    | (rw [Bool.not_eq_false, decide_eq_true_eq] at h70; exact lsN_lt (i := 6) (by decide) h1 h70.2)
                    | (rw [Bool.not_eq_false, decide_eq_true_eq] at h61; exact lsN_lt (i := 5) (by decide) h1 h61.2)
                    | (rw [Bool.not_eq_false, decide_eq_true_eq] at h52; exact lsN_lt (i := 4) (by decide) h1 h52.2)
                    | (rw [Bool.not_eq_false, decide_eq_true_eq] at h41; exact lsN_lt (i := 3) (by decide) h1 h41.2)
                    | (rw [Bool.not_eq_false, decide_eq_true_eq] at h32; exact lsN_lt (i := 2) (by decide) h1 h32.2)
                    | (rw [Bool.not_eq_false, decide_eq_true_eq] at h23; exact lsN_lt (i := 1) (by decide) h1 h23.2)
                    | (rw [Bool.not_eq_false, decide_eq_true_eq] at h14; exact lsN_lt (i := 0) (by decide) h1 h14.2)
                rw [decide_eq_false (fun q => absurd q.2 (by omega))] at hp; exact hp
              · refine j_aload_n dX13_isName_64 rfl rfl ?_
                refine j_ldcS13_155 dX13_isName_65 ?_
                refine cV13_121 (d1 := 7) rfl dX13_isName_67 (by decide) (Nat.le_of_ble_eq_true rfl) ?_
                refine m_isWord (i := 6) (by decide) hz ?_
                refine j_if_ne (tgt := 77) dX13_isName_70 (by decide) (fun h70 => ?_) (fun h70 => ?_)
                all_goals rw [bN_eq0] at h70
                · refine j_iconst (v := nI 0) dX13_isName_77 (by decide) ?_
                  refine j_zret rfl (by decide) dX13_isName_78 ?_
                  have hlt : lsN B n p < 7 := by
                    first
                      | (rw [Bool.not_eq_false, decide_eq_true_eq] at h70; exact lsN_lt (i := 6) (by decide) h1 h70.2)
                      | (rw [Bool.not_eq_false, decide_eq_true_eq] at h61; exact lsN_lt (i := 5) (by decide) h1 h61.2)
                      | (rw [Bool.not_eq_false, decide_eq_true_eq] at h52; exact lsN_lt (i := 4) (by decide) h1 h52.2)
                      | (rw [Bool.not_eq_false, decide_eq_true_eq] at h41; exact lsN_lt (i := 3) (by decide) h1 h41.2)
                      | (rw [Bool.not_eq_false, decide_eq_true_eq] at h32; exact lsN_lt (i := 2) (by decide) h1 h32.2)
                      | (rw [Bool.not_eq_false, decide_eq_true_eq] at h23; exact lsN_lt (i := 1) (by decide) h1 h23.2)
                      | (rw [Bool.not_eq_false, decide_eq_true_eq] at h14; exact lsN_lt (i := 0) (by decide) h1 h14.2)
                  rw [decide_eq_false (fun q => absurd q.2 (by omega))] at hp; exact hp
                · refine j_iconst (v := nI 1) dX13_isName_73 (by decide) ?_
                  refine j_goto (tgt := 78) dX13_isName_74 (by decide) ?_
                  refine j_zret rfl (by decide) dX13_isName_78 ?_
                  have h7 : lsN B n p = 7 := by
                    refine lsN_7 (fun i hi => ?_)
                    rw [decide_eq_false_iff_not] at h14 h23 h32 h41 h52 h61 h70
                    have : i = 0 ∨ i = 1 ∨ i = 2 ∨ i = 3 ∨ i = 4 ∨ i = 5 ∨ i = 6 := by omega
                    rcases this with rfl | rfl | rfl | rfl | rfl | rfl | rfl
                    · exact h14
                    · exact h23
                    · exact h32
                    · exact h41
                    · exact h52
                    · exact h61
                    · exact h70
                  rw [decide_eq_true ⟨h1, h7⟩] at hp; exact hp
          · refine j_iconst (v := nI 0) dX13_isName_44 (by decide) ?_
            refine j_zret rfl (by decide) dX13_isName_45 ?_
            have hlt : lsN B n p < 7 := by
              first
                | (rw [Bool.not_eq_false, decide_eq_true_eq] at h70; exact lsN_lt (i := 6) (by decide) h1 h70.2)
                | (rw [Bool.not_eq_false, decide_eq_true_eq] at h61; exact lsN_lt (i := 5) (by decide) h1 h61.2)
                | (rw [Bool.not_eq_false, decide_eq_true_eq] at h52; exact lsN_lt (i := 4) (by decide) h1 h52.2)
                | (rw [Bool.not_eq_false, decide_eq_true_eq] at h41; exact lsN_lt (i := 3) (by decide) h1 h41.2)
                | (rw [Bool.not_eq_false, decide_eq_true_eq] at h32; exact lsN_lt (i := 2) (by decide) h1 h32.2)
                | (rw [Bool.not_eq_false, decide_eq_true_eq] at h23; exact lsN_lt (i := 1) (by decide) h1 h23.2)
                | (rw [Bool.not_eq_false, decide_eq_true_eq] at h14; exact lsN_lt (i := 0) (by decide) h1 h14.2)
            rw [decide_eq_false (fun q => absurd q.2 (by omega))] at hp; exact hp
  · rw [decide_eq_false (fun q => h1 q.1)] at hp
    have hk := sM_k (tS_le B n p) h1 (by decide)
    refine enter 0 (by decide) rfl rfl (fun X => ?_)
    refine j_aload_n dX13_isName_0 rfl rfl ?_
    refine gI13_79 rfl dX13_isName_1 ?_
    rw [hz.2.1.2.1]
    refine j_iconst (v := nI 2) dX13_isName_4 (by decide) ?_
    refine j_icmp_ne (tgt := 44) dX13_isName_5 (by decide) (fun h5 => ?_) (fun h5 => by exfalso; rw [nI_eq (by omega) (by decide)] at h5; exact hk h5)
    refine j_iconst (v := nI 0) dX13_isName_44 (by decide) ?_
    refine j_zret rfl (by decide) dX13_isName_45 ?_
    exact hp
theorem m_find {N : NS} {h : Int64} (hM : MM M) (hY : XT mr M) (hN : RNM mi ml M N) (hp : post (some (.int (if (ixN N h) < N.1 then nI (ixN N h) else -1))) mi ml mr dom) : CT G 1 0 0 yX12_find cX12_find 4 (some .int) [.ref M, .long h] mi ml mr dom post := by
  have h17 := hN.1
  have hle : (ixN N h) ≤ N.1 := rq_le _ _ _ (by omega)
  refine enter 1 (by decide) rfl rfl (fun X => ?_)
  refine j_iconst (v := nI 0) dX12_find_0 (by decide) ?_
  refine j_istore_n (lv2 := [_, _, _, _]) dX12_find_1 rfl (by decide) rfl rfl ?_
  skip
  refine rq_loop (Q := (fun k => !decide (N.2.1 k = h))) (n := N.1) (p := 0) (H := fun i => J cX12_find 4 yX12_find.cls yX12_find.name (some .int) 1 G X post 0 0 mi ml mr dom 2 [some (.ref M), some (.long h), none, some (.int (nI i))] []) (fun i _ hi hq ih => ?_) ?_
  · skip
    refine j_iload_n dX12_find_2 rfl rfl ?_
    refine j_aload_n dX12_find_3 rfl rfl ?_
    refine gI12_70 (kM0 hM) dX12_find_4 ?_
    rw [hN.2.1]
    refine j_icmp_ge (tgt := 29) dX12_find_7 (by decide) (fun h7 => by exfalso; rw [nI_leI (by omega) (by omega)] at h7; omega) (fun h7 => ?_)
    refine j_aload_n dX12_find_10 rfl rfl ?_
    refine gR12_60 (kM0 hM) dX12_find_11 (xM17 hY) ?_
    refine j_iload_n dX12_find_14 rfl rfl ?_
    refine j_lald (kM17 hM) (inT (lM17 hM) (show i < 17 by omega) (by decide)) dX12_find_15 ?_
    rw [nI_clamp (by omega), (hN.2.2 i (by omega)).1]
    refine j_lload_n dX12_find_16 rfl rfl ?_
    refine j_lcmp dX12_find_17 ?_
    refine j_if_ne (tgt := 23) dX12_find_18 (by decide) (fun h18 => ?_) (fun h18 => absurd ((cmp0 _ _).mp h18) (by simpa using hq))
    refine j_iinc1 (lv2 := [_, _, _, _]) dX12_find_23 rfl (by decide) rfl rfl ?_
    rw [nI_1]
    refine j_goto (tgt := 2) dX12_find_26 (by decide) ?_
    exact ih
  · show J cX12_find 4 yX12_find.cls yX12_find.name (some .int) 1 G X post 0 0 mi ml mr dom 2 [some (.ref M), some (.long h), none, some (.int (nI (ixN N h)))] []
    refine j_iload_n dX12_find_2 rfl rfl ?_
    refine j_aload_n dX12_find_3 rfl rfl ?_
    refine gI12_70 (kM0 hM) dX12_find_4 ?_
    rw [hN.2.1]
    refine j_icmp_ge (tgt := 29) dX12_find_7 (by decide) (fun h7 => ?_) (fun h7 => ?_)
    all_goals rw [nI_leI (by omega) (by omega)] at h7
    · refine j_iconst (v := -1) dX12_find_29 (by decide) ?_
      refine j_iret rfl dX12_find_30 ?_
      rw [if_neg (by omega)] at hp; exact hp
    · have hlt : (ixN N h) < N.1 := by omega
      have hst0 : (!decide (N.2.1 (ixN N h) = h)) = false := rq_stop (fun k => !decide (N.2.1 k = h)) N.1 0 hlt
      have hst : N.2.1 (ixN N h) = h := by rw [Bool.not_eq_false', decide_eq_true_eq] at hst0; exact hst0
      refine j_aload_n dX12_find_10 rfl rfl ?_
      refine gR12_60 (kM0 hM) dX12_find_11 (xM17 hY) ?_
      refine j_iload_n dX12_find_14 rfl rfl ?_
      refine j_lald (kM17 hM) (inT (lM17 hM) (show (ixN N h) < 17 by omega) (by decide)) dX12_find_15 ?_
      rw [nI_clamp (by omega), (hN.2.2 (ixN N h) (by omega)).1]
      refine j_lload_n dX12_find_16 rfl rfl ?_
      refine j_lcmp dX12_find_17 ?_
      refine j_if_ne (tgt := 23) dX12_find_18 (by decide) (fun h18 => ?_) (fun h18 => ?_)
      · exact absurd ((cmp0 _ _).mpr hst) h18
      · refine j_iload_n dX12_find_21 rfl rfl ?_
        refine j_iret rfl dX12_find_22 ?_
        rw [if_pos hlt] at hp; exact hp
theorem m_lineB {c mx : Nat} (hX : XM mr) (hM : MM M) (hg : GB t) (hRd : mr 1000 4 = some M) (hB : RBM mi B n) (hc : c < 2 ^ 30) (hmx : mx < 2 ^ 30) (hdr : mi M 2 = nI (t 0 2)) (hz : MZ mi ml B n (.inr p)) (h1 : tS B n p = 1) (hp : ∀ m l, FG mi ml m l → MZ m l B n (if c = mx then .inl (5, tA B n p) else if t 0 2 = 0 then .inl (6, tA B n p) else .inr (tE B n p)) → post none m l mr dom) : CT G 3 0 0 yX13_lineBegins cX13_lineBegins 3 none [.ref 1000, .int (nI c), .int (nI mx)] mi ml mr dom post := by
  have hge := hM.ge
  have hd9 := hg 0 2
  refine enter 0 (by decide) rfl rfl (fun X => ?_)
  by_cases q1 : c = mx
  · skip
    refine j_iload_n dX13_lineBegins_0 rfl rfl ?_
    refine j_iload_n dX13_lineBegins_1 rfl rfl ?_
    refine j_icmp_ne (tgt := 10) dX13_lineBegins_2 (by decide) (fun h2 => by exfalso; rw [nI_eq (by omega) (by omega)] at h2; omega) (fun h2 => ?_)
    refine j_aload_n dX13_lineBegins_5 rfl rfl ?_
    refine j_iconst (v := nI 5) dX13_lineBegins_6 (by decide) ?_
    refine cV13_125 (d1 := 1) rfl dX13_lineBegins_7 (by decide) (Nat.le_of_ble_eq_true rfl) ?_
    refine m_flawN (k := 5) hz (fun m1 f1 z1 => ?_)
    refine j_aload_n dX13_lineBegins_10 rfl rfl ?_
    refine gR13_157 rfl dX13_lineBegins_11 hRd ?_
    refine gI13_161 (kM0 hM) dX13_lineBegins_14 ?_
    rw [f1.1 M (by omega), hdr]
    refine j_if_ne (tgt := 26) dX13_lineBegins_17 (by decide) (fun h17 => ?_) (fun h17 => ?_)
    all_goals rw [show (0 : Int32) = nI 0 from rfl, nI_eq (by have := hg 0 2; omega) (by decide)] at h17
    · refine j_aload_n dX13_lineBegins_26 rfl rfl ?_
      refine cV13_118 (d1 := 2) rfl dX13_lineBegins_27 (by decide) (Nat.le_of_ble_eq_true rfl) ?_
      refine m_goesO z1.1 ?_
      refine j_vret rfl dX13_lineBegins_30 ?_
      rw [if_pos q1] at hp; exact hp m1 ml f1 z1
    · refine j_aload_n dX13_lineBegins_20 rfl rfl ?_
      refine j_bipush (v := nI 6) dX13_lineBegins_21 (by decide) ?_
      refine cV13_125 (d1 := 1) rfl dX13_lineBegins_23 (by decide) (Nat.le_of_ble_eq_true rfl) ?_
      refine m_flawO z1.1 ?_
      refine j_aload_n dX13_lineBegins_26 rfl rfl ?_
      refine cV13_118 (d1 := 2) rfl dX13_lineBegins_27 (by decide) (Nat.le_of_ble_eq_true rfl) ?_
      refine m_goesO z1.1 ?_
      refine j_vret rfl dX13_lineBegins_30 ?_
      rw [if_pos q1] at hp; exact hp m1 ml f1 z1
  · by_cases q2 : t 0 2 = 0
    · skip
      refine j_iload_n dX13_lineBegins_0 rfl rfl ?_
      refine j_iload_n dX13_lineBegins_1 rfl rfl ?_
      refine j_icmp_ne (tgt := 10) dX13_lineBegins_2 (by decide) (fun h2 => ?_) (fun h2 => by exfalso; rw [nI_eq (by omega) (by omega)] at h2; omega)
      refine j_aload_n dX13_lineBegins_10 rfl rfl ?_
      refine gR13_157 rfl dX13_lineBegins_11 hRd ?_
      refine gI13_161 (kM0 hM) dX13_lineBegins_14 ?_
      rw [hdr]
      refine j_if_ne (tgt := 26) dX13_lineBegins_17 (by decide) (fun h17 => by exfalso; rw [show (0 : Int32) = nI 0 from rfl, nI_eq (by have := hg 0 2; omega) (by decide)] at h17; have := hg 0 2; omega) (fun h17 => ?_)
      refine j_aload_n dX13_lineBegins_20 rfl rfl ?_
      refine j_bipush (v := nI 6) dX13_lineBegins_21 (by decide) ?_
      refine cV13_125 (d1 := 1) rfl dX13_lineBegins_23 (by decide) (Nat.le_of_ble_eq_true rfl) ?_
      refine m_flawN (k := 6) hz (fun m1 f1 z1 => ?_)
      refine j_aload_n dX13_lineBegins_26 rfl rfl ?_
      refine cV13_118 (d1 := 2) rfl dX13_lineBegins_27 (by decide) (Nat.le_of_ble_eq_true rfl) ?_
      refine m_goesO z1.1 ?_
      refine j_vret rfl dX13_lineBegins_30 ?_
      rw [if_neg q1, if_pos q2] at hp; exact hp m1 ml f1 z1
    · skip
      refine j_iload_n dX13_lineBegins_0 rfl rfl ?_
      refine j_iload_n dX13_lineBegins_1 rfl rfl ?_
      refine j_icmp_ne (tgt := 10) dX13_lineBegins_2 (by decide) (fun h2 => ?_) (fun h2 => by exfalso; rw [nI_eq (by omega) (by omega)] at h2; omega)
      refine j_aload_n dX13_lineBegins_10 rfl rfl ?_
      refine gR13_157 rfl dX13_lineBegins_11 hRd ?_
      refine gI13_161 (kM0 hM) dX13_lineBegins_14 ?_
      rw [hdr]
      refine j_if_ne (tgt := 26) dX13_lineBegins_17 (by decide) (fun h17 => ?_) (fun h17 => by exfalso; rw [show (0 : Int32) = nI 0 from rfl, nI_eq (by have := hg 0 2; omega) (by decide)] at h17; have := hg 0 2; omega)
      refine j_aload_n dX13_lineBegins_26 rfl rfl ?_
      refine cV13_118 (d1 := 2) rfl dX13_lineBegins_27 (by decide) (Nat.le_of_ble_eq_true rfl) ?_
      refine m_goes hX hB hz (by omega) (fun m1 l1 f1 z1 => ?_)
      refine j_vret rfl dX13_lineBegins_30 ?_
      rw [if_neg q1, if_neg q2] at hp; exact hp m1 l1 f1 z1
def frN (B : Nat → Nat) (n : Nat) (N : NS) (p : Nat) : ER Nat := if ¬ (tS B n p = 1 ∧ lsN B n p = 7) then .inl (1, tA B n p) else if ixN N (tH B n p) < N.1 then .inl (3, tA B n p) else .inr (tE B n p)
theorem m_readFresh {N : NS} {x : ER Nat} (hX : XM mr) (hM : MM M) (hY : XT mr M) (hRd : mr 1000 4 = some M) (hB : RBM mi B n) (hN : RNM mi ml M N) (hz : MZ mi ml B n x) (hp : ∀ (v : Int64) m l, FG mi ml m l → MZ m l B n (eb x (frN B n N)) → (∀ p q, x = .inr p → frN B n N p = .inr q → v = tH B n p) → post (some (.long v)) m l mr dom) : CT G 9 0 0 yX13_readFresh cX13_readFresh 3 (some .long) [.ref 1000] mi ml mr dom post := by
  cases x with
  | inl e =>
    refine enter 2 (by decide) rfl rfl (fun X => ?_)
    refine j_aload_n dX13_readFresh_0 rfl rfl ?_
    refine cV13_166 (d1 := 8) rfl dX13_readFresh_1 (by decide) (Nat.le_of_ble_eq_true rfl) ?_
    refine m_isNameO hz.1 ?_
    refine j_if_ne (tgt := 12) dX13_readFresh_4 (by decide) (fun h4 => absurd (by decide) h4) (fun h4 => ?_)
    refine j_aload_n dX13_readFresh_7 rfl rfl ?_
    refine j_iconst (v := nI 1) dX13_readFresh_8 (by decide) ?_
    refine cV13_125 (d1 := 1) rfl dX13_readFresh_9 (by decide) (Nat.le_of_ble_eq_true rfl) ?_
    refine m_flawO hz.1 ?_
    refine j_aload_n dX13_readFresh_12 rfl rfl ?_
    refine gR13_157 rfl dX13_readFresh_13 hRd ?_
    refine j_aload_n dX13_readFresh_16 rfl rfl ?_
    refine gL13_95 rfl dX13_readFresh_17 ?_
    refine cV13_170 (d1 := 1) (kM0 hM) dX13_readFresh_20 (by decide) (Nat.le_of_ble_eq_true rfl) ?_
    refine m_find (h := ml 1000 15) hM hY hN ?_
    refine j_iconst (v := -1) dX13_readFresh_23 (by decide) ?_
    refine j_icmp_eq (tgt := 32) dX13_readFresh_24 (by decide) (fun h24 => ?_) (fun h24 => ?_)
    · refine j_aload_n dX13_readFresh_32 rfl rfl ?_
      refine gL13_95 rfl dX13_readFresh_33 ?_
      refine j_lstore_n (lv2 := [_, _, _]) dX13_readFresh_36 rfl (by decide) rfl rfl ?_
      refine j_aload_n dX13_readFresh_37 rfl rfl ?_
      refine cV13_118 (d1 := 2) rfl dX13_readFresh_38 (by decide) (Nat.le_of_ble_eq_true rfl) ?_
      refine m_goesO hz.1 ?_
      refine j_lload_n dX13_readFresh_41 rfl rfl ?_
      refine j_lret rfl dX13_readFresh_42 ?_
      exact hp _ mi ml (FG.rfl' mi ml) hz (fun p q h => by cases h)
    · refine j_aload_n dX13_readFresh_27 rfl rfl ?_
      refine j_iconst (v := nI 3) dX13_readFresh_28 (by decide) ?_
      refine cV13_125 (d1 := 1) rfl dX13_readFresh_29 (by decide) (Nat.le_of_ble_eq_true rfl) ?_
      refine m_flawO hz.1 ?_
      refine j_aload_n dX13_readFresh_32 rfl rfl ?_
      refine gL13_95 rfl dX13_readFresh_33 ?_
      refine j_lstore_n (lv2 := [_, _, _]) dX13_readFresh_36 rfl (by decide) rfl rfl ?_
      refine j_aload_n dX13_readFresh_37 rfl rfl ?_
      refine cV13_118 (d1 := 2) rfl dX13_readFresh_38 (by decide) (Nat.le_of_ble_eq_true rfl) ?_
      refine m_goesO hz.1 ?_
      refine j_lload_n dX13_readFresh_41 rfl rfl ?_
      refine j_lret rfl dX13_readFresh_42 ?_
      exact hp _ mi ml (FG.rfl' mi ml) hz (fun p q h => by cases h)
  | inr p =>
    by_cases hc : tS B n p = 1 ∧ lsN B n p = 7
    · have h1 := hc.1
      have hw := (hz.2.1.2.2.2.1 h1).1
      by_cases hf : ixN N (tH B n p) < N.1
      · have hq : eb (.inr p) (frN B n N) = .inl (3, tA B n p) := by show frN B n N p = _; unfold frN; rw [if_neg (fun q => q hc), if_pos hf]
        rw [hq] at hp
        have h17 := hN.1
        refine enter 2 (by decide) rfl rfl (fun X => ?_)
        refine j_aload_n dX13_readFresh_0 rfl rfl ?_
        refine cV13_166 (d1 := 8) rfl dX13_readFresh_1 (by decide) (Nat.le_of_ble_eq_true rfl) ?_
        refine m_isName hz ?_
        rw [decide_eq_true hc]
        show J _ _ _ _ _ _ _ _ _ _ _ _ _ _ _ _ _ (.int (nI 1) :: _)
        refine j_if_ne (tgt := 12) dX13_readFresh_4 (by decide) (fun h4 => ?_) (fun h4 => absurd h4 (by decide))
        refine j_aload_n dX13_readFresh_12 rfl rfl ?_
        refine gR13_157 rfl dX13_readFresh_13 hRd ?_
        refine j_aload_n dX13_readFresh_16 rfl rfl ?_
        refine gL13_95 rfl dX13_readFresh_17 ?_
        rw [hw]
        refine cV13_170 (d1 := 1) (kM0 hM) dX13_readFresh_20 (by decide) (Nat.le_of_ble_eq_true rfl) ?_
        refine m_find hM hY hN ?_
        rw [if_pos hf]
        refine j_iconst (v := -1) dX13_readFresh_23 (by decide) ?_
        refine j_icmp_eq (tgt := 32) dX13_readFresh_24 (by decide) (fun h24 => absurd h24 (m1_ne (by omega))) (fun h24 => ?_)
        refine j_aload_n dX13_readFresh_27 rfl rfl ?_
        refine j_iconst (v := nI 3) dX13_readFresh_28 (by decide) ?_
        refine cV13_125 (d1 := 1) rfl dX13_readFresh_29 (by decide) (Nat.le_of_ble_eq_true rfl) ?_
        refine m_flawN (k := 3) hz (fun m1 f1 z1 => ?_)
        refine j_aload_n dX13_readFresh_32 rfl rfl ?_
        refine gL13_95 rfl dX13_readFresh_33 ?_
        refine j_lstore_n (lv2 := [_, _, _]) dX13_readFresh_36 rfl (by decide) rfl rfl ?_
        refine j_aload_n dX13_readFresh_37 rfl rfl ?_
        refine cV13_118 (d1 := 2) rfl dX13_readFresh_38 (by decide) (Nat.le_of_ble_eq_true rfl) ?_
        refine m_goesO z1.1 ?_
        refine j_lload_n dX13_readFresh_41 rfl rfl ?_
        refine j_lret rfl dX13_readFresh_42 ?_
        exact hp _ m1 ml f1 z1 (fun p2 q h h2 => by cases h; rw [show frN B n N p = _ from hq] at h2; cases h2)
      · have hq : eb (.inr p) (frN B n N) = .inr (tE B n p) := by show frN B n N p = _; unfold frN; rw [if_neg (fun q => q hc), if_neg hf]
        rw [hq] at hp
        refine enter 2 (by decide) rfl rfl (fun X => ?_)
        refine j_aload_n dX13_readFresh_0 rfl rfl ?_
        refine cV13_166 (d1 := 8) rfl dX13_readFresh_1 (by decide) (Nat.le_of_ble_eq_true rfl) ?_
        refine m_isName hz ?_
        rw [decide_eq_true hc]
        show J _ _ _ _ _ _ _ _ _ _ _ _ _ _ _ _ _ (.int (nI 1) :: _)
        refine j_if_ne (tgt := 12) dX13_readFresh_4 (by decide) (fun h4 => ?_) (fun h4 => absurd h4 (by decide))
        refine j_aload_n dX13_readFresh_12 rfl rfl ?_
        refine gR13_157 rfl dX13_readFresh_13 hRd ?_
        refine j_aload_n dX13_readFresh_16 rfl rfl ?_
        refine gL13_95 rfl dX13_readFresh_17 ?_
        rw [hw]
        refine cV13_170 (d1 := 1) (kM0 hM) dX13_readFresh_20 (by decide) (Nat.le_of_ble_eq_true rfl) ?_
        refine m_find hM hY hN ?_
        rw [if_neg hf]
        refine j_iconst (v := -1) dX13_readFresh_23 (by decide) ?_
        refine j_icmp_eq (tgt := 32) dX13_readFresh_24 (by decide) (fun h24 => ?_) (fun h24 => absurd (by decide) h24)
        refine j_aload_n dX13_readFresh_32 rfl rfl ?_
        refine gL13_95 rfl dX13_readFresh_33 ?_
        rw [hw]
        refine j_lstore_n (lv2 := [_, _, _]) dX13_readFresh_36 rfl (by decide) rfl rfl ?_
        refine j_aload_n dX13_readFresh_37 rfl rfl ?_
        refine cV13_118 (d1 := 2) rfl dX13_readFresh_38 (by decide) (Nat.le_of_ble_eq_true rfl) ?_
        refine m_goes hX hB hz (by omega) (fun m1 l1 f1 z1 => ?_)
        refine j_lload_n dX13_readFresh_41 rfl rfl ?_
        refine j_lret rfl dX13_readFresh_42 ?_
        exact hp _ m1 l1 f1 z1 (fun p2 q h _ => by cases h; rfl)
    · have hq : eb (.inr p) (frN B n N) = .inl (1, tA B n p) := by show frN B n N p = _; unfold frN; rw [if_pos hc]
      rw [hq] at hp
      refine enter 2 (by decide) rfl rfl (fun X => ?_)
      refine j_aload_n dX13_readFresh_0 rfl rfl ?_
      refine cV13_166 (d1 := 8) rfl dX13_readFresh_1 (by decide) (Nat.le_of_ble_eq_true rfl) ?_
      refine m_isName hz ?_
      rw [decide_eq_false hc]
      show J _ _ _ _ _ _ _ _ _ _ _ _ _ _ _ _ _ (.int (nI 0) :: _)
      refine j_if_ne (tgt := 12) dX13_readFresh_4 (by decide) (fun h4 => absurd (by decide) h4) (fun h4 => ?_)
      refine j_aload_n dX13_readFresh_7 rfl rfl ?_
      refine j_iconst (v := nI 1) dX13_readFresh_8 (by decide) ?_
      refine cV13_125 (d1 := 1) rfl dX13_readFresh_9 (by decide) (Nat.le_of_ble_eq_true rfl) ?_
      refine m_flawN (k := 1) hz (fun m1 f1 z1 => ?_)
      refine j_aload_n dX13_readFresh_12 rfl rfl ?_
      refine gR13_157 rfl dX13_readFresh_13 hRd ?_
      refine j_aload_n dX13_readFresh_16 rfl rfl ?_
      refine gL13_95 rfl dX13_readFresh_17 ?_
      refine cV13_170 (d1 := 1) (kM0 hM) dX13_readFresh_20 (by decide) (Nat.le_of_ble_eq_true rfl) ?_
      refine m_find (h := ml 1000 15) hM hY (hN.f hM f1) ?_
      refine j_iconst (v := -1) dX13_readFresh_23 (by decide) ?_
      refine j_icmp_eq (tgt := 32) dX13_readFresh_24 (by decide) (fun h24 => ?_) (fun h24 => ?_)
      · refine j_aload_n dX13_readFresh_32 rfl rfl ?_
        refine gL13_95 rfl dX13_readFresh_33 ?_
        refine j_lstore_n (lv2 := [_, _, _]) dX13_readFresh_36 rfl (by decide) rfl rfl ?_
        refine j_aload_n dX13_readFresh_37 rfl rfl ?_
        refine cV13_118 (d1 := 2) rfl dX13_readFresh_38 (by decide) (Nat.le_of_ble_eq_true rfl) ?_
        refine m_goesO z1.1 ?_
        refine j_lload_n dX13_readFresh_41 rfl rfl ?_
        refine j_lret rfl dX13_readFresh_42 ?_
        exact hp _ m1 ml f1 z1 (fun p2 q h h2 => by cases h; rw [show frN B n N p = _ from hq] at h2; cases h2)
      · refine j_aload_n dX13_readFresh_27 rfl rfl ?_
        refine j_iconst (v := nI 3) dX13_readFresh_28 (by decide) ?_
        refine cV13_125 (d1 := 1) rfl dX13_readFresh_29 (by decide) (Nat.le_of_ble_eq_true rfl) ?_
        refine m_flawO z1.1 ?_
        refine j_aload_n dX13_readFresh_32 rfl rfl ?_
        refine gL13_95 rfl dX13_readFresh_33 ?_
        refine j_lstore_n (lv2 := [_, _, _]) dX13_readFresh_36 rfl (by decide) rfl rfl ?_
        refine j_aload_n dX13_readFresh_37 rfl rfl ?_
        refine cV13_118 (d1 := 2) rfl dX13_readFresh_38 (by decide) (Nat.le_of_ble_eq_true rfl) ?_
        refine m_goesO z1.1 ?_
        refine j_lload_n dX13_readFresh_41 rfl rfl ?_
        refine j_lret rfl dX13_readFresh_42 ?_
        exact hp _ m1 ml f1 z1 (fun p2 q h h2 => by cases h; rw [show frN B n N p = _ from hq] at h2; cases h2)
def kn1 (B : Nat → Nat) (n : Nat) (N : NS) (s p : Nat) : ER Nat := es (fun _ => p) (fN B n N s p)
theorem smc_eq {a b : Nat} (ha : a = 1 ∨ a = 3 ∨ a = 4) (hb : b = 1 ∨ b = 3) : smc a = smc b ↔ a = b := by
  rcases ha with rfl | rfl | rfl <;> rcases hb with rfl | rfl <;> decide
theorem m_knownOne {N : NS} {s : Nat} {x : ER Nat} (hX : XM mr) (hM : MM M) (hY : XT mr M) (hRd : mr 1000 4 = some M) (hB : RBM mi B n) (hN : RNM mi ml M N) (hN2 : ∀ k, k < N.1 → N.2.2.1 k = 1 ∨ N.2.2.1 k = 3 ∨ N.2.2.1 k = 4) (hs : s = 1 ∨ s = 3) (hz : MZ mi ml B n x) (hp : ∀ (v : Int32) m l, FG mi ml m l → MZ m l B n (eb x (kn1 B n N s)) → (∀ p q, x = .inr p → fN B n N s p = .inr q → v = nI q) → post (some (.int v)) m l mr dom) : CT G 9 0 0 yX13_knownOne cX13_knownOne 3 (some .int) [.ref 1000, .int (nI (smc s))] mi ml mr dom post := by
  have h17 := hN.1
  cases x with
  | inl e =>
    refine enter 1 (by decide) rfl rfl (fun X => ?_)
    by_cases hff : ixN N (ml 1000 15) < N.1
    · skip
      refine j_aload_n dX13_knownOne_0 rfl rfl ?_
      refine cV13_166 (d1 := 8) rfl dX13_knownOne_1 (by decide) (Nat.le_of_ble_eq_true rfl) ?_
      refine m_isNameO hz.1 ?_
      refine j_if_ne (tgt := 12) dX13_knownOne_4 (by decide) (fun h4 => absurd (by decide) h4) (fun h4 => ?_)
      refine j_aload_n dX13_knownOne_7 rfl rfl ?_
      refine j_iconst (v := nI 1) dX13_knownOne_8 (by decide) ?_
      refine cV13_125 (d1 := 1) rfl dX13_knownOne_9 (by decide) (Nat.le_of_ble_eq_true rfl) ?_
      refine m_flawO hz.1 ?_
      refine j_aload_n dX13_knownOne_12 rfl rfl ?_
      refine gR13_157 rfl dX13_knownOne_13 hRd ?_
      refine j_aload_n dX13_knownOne_16 rfl rfl ?_
      refine gL13_95 rfl dX13_knownOne_17 ?_
      refine cV13_170 (d1 := 1) (kM0 hM) dX13_knownOne_20 (by decide) (Nat.le_of_ble_eq_true rfl) ?_
      refine m_find (h := ml 1000 15) hM hY hN ?_
      rw [if_pos hff]
      refine j_istore_n (lv2 := [_, _, _]) dX13_knownOne_23 rfl (by decide) rfl rfl ?_
      refine j_iload_n dX13_knownOne_24 rfl rfl ?_
      refine j_iconst (v := -1) dX13_knownOne_25 (by decide) ?_
      refine j_icmp_eq (tgt := 42) dX13_knownOne_26 (by decide) (fun h26 => absurd h26 (m1_ne (by omega))) (fun h26 => ?_)
      refine j_aload_n dX13_knownOne_29 rfl rfl ?_
      refine gR13_157 rfl dX13_knownOne_30 hRd ?_
      refine gR13_181 (kM0 hM) dX13_knownOne_33 (xM18 hY) ?_
      refine j_iload_n dX13_knownOne_36 rfl rfl ?_
      refine j_iald (kM18 hM) (inT (lM18 hM) (show (ixN N (ml 1000 15)) < 17 by omega) (by decide)) dX13_knownOne_37 ?_
      rw [nI_clamp (by omega), (hN.2.2 (ixN N (ml 1000 15)) (by omega)).2.1]
      refine j_iload_n dX13_knownOne_38 rfl rfl ?_
      refine j_icmp_eq (tgt := 47) dX13_knownOne_39 (by decide) (fun h39 => ?_) (fun h39 => ?_)
      all_goals rw [nI_eq (by have := smc_le (N.2.2.1 (ixN N (ml 1000 15))); omega) (by have := smc_le s; omega)] at h39
      · refine j_aload_n dX13_knownOne_47 rfl rfl ?_
        refine gI13_79 rfl dX13_knownOne_48 ?_
        rw [hz.1]
        refine j_iconst (v := nI 5) dX13_knownOne_51 (by decide) ?_
        refine j_icmp_ne (tgt := 59) dX13_knownOne_52 (by decide) (fun h52 => absurd (by decide) h52) (fun h52 => ?_)
        refine j_iconst (v := nI 0) dX13_knownOne_55 (by decide) ?_
        refine j_goto (tgt := 68) dX13_knownOne_56 (by decide) ?_
        refine j_iret rfl dX13_knownOne_68 ?_
        exact hp _ mi ml (FG.rfl' mi ml) hz (fun p q h => by cases h)
      · refine j_aload_n dX13_knownOne_42 rfl rfl ?_
        refine j_iconst (v := nI 2) dX13_knownOne_43 (by decide) ?_
        refine cV13_125 (d1 := 1) rfl dX13_knownOne_44 (by decide) (Nat.le_of_ble_eq_true rfl) ?_
        refine m_flawO hz.1 ?_
        refine j_aload_n dX13_knownOne_47 rfl rfl ?_
        refine gI13_79 rfl dX13_knownOne_48 ?_
        rw [hz.1]
        refine j_iconst (v := nI 5) dX13_knownOne_51 (by decide) ?_
        refine j_icmp_ne (tgt := 59) dX13_knownOne_52 (by decide) (fun h52 => absurd (by decide) h52) (fun h52 => ?_)
        refine j_iconst (v := nI 0) dX13_knownOne_55 (by decide) ?_
        refine j_goto (tgt := 68) dX13_knownOne_56 (by decide) ?_
        refine j_iret rfl dX13_knownOne_68 ?_
        exact hp _ mi ml (FG.rfl' mi ml) hz (fun p q h => by cases h)
    · skip
      refine j_aload_n dX13_knownOne_0 rfl rfl ?_
      refine cV13_166 (d1 := 8) rfl dX13_knownOne_1 (by decide) (Nat.le_of_ble_eq_true rfl) ?_
      refine m_isNameO hz.1 ?_
      refine j_if_ne (tgt := 12) dX13_knownOne_4 (by decide) (fun h4 => absurd (by decide) h4) (fun h4 => ?_)
      refine j_aload_n dX13_knownOne_7 rfl rfl ?_
      refine j_iconst (v := nI 1) dX13_knownOne_8 (by decide) ?_
      refine cV13_125 (d1 := 1) rfl dX13_knownOne_9 (by decide) (Nat.le_of_ble_eq_true rfl) ?_
      refine m_flawO hz.1 ?_
      refine j_aload_n dX13_knownOne_12 rfl rfl ?_
      refine gR13_157 rfl dX13_knownOne_13 hRd ?_
      refine j_aload_n dX13_knownOne_16 rfl rfl ?_
      refine gL13_95 rfl dX13_knownOne_17 ?_
      refine cV13_170 (d1 := 1) (kM0 hM) dX13_knownOne_20 (by decide) (Nat.le_of_ble_eq_true rfl) ?_
      refine m_find (h := ml 1000 15) hM hY hN ?_
      rw [if_neg hff]
      refine j_istore_n (lv2 := [_, _, _]) dX13_knownOne_23 rfl (by decide) rfl rfl ?_
      refine j_iload_n dX13_knownOne_24 rfl rfl ?_
      refine j_iconst (v := -1) dX13_knownOne_25 (by decide) ?_
      refine j_icmp_eq (tgt := 42) dX13_knownOne_26 (by decide) (fun h26 => ?_) (fun h26 => absurd (by decide) h26)
      refine j_aload_n dX13_knownOne_42 rfl rfl ?_
      refine j_iconst (v := nI 2) dX13_knownOne_43 (by decide) ?_
      refine cV13_125 (d1 := 1) rfl dX13_knownOne_44 (by decide) (Nat.le_of_ble_eq_true rfl) ?_
      refine m_flawO hz.1 ?_
      refine j_aload_n dX13_knownOne_47 rfl rfl ?_
      refine gI13_79 rfl dX13_knownOne_48 ?_
      rw [hz.1]
      refine j_iconst (v := nI 5) dX13_knownOne_51 (by decide) ?_
      refine j_icmp_ne (tgt := 59) dX13_knownOne_52 (by decide) (fun h52 => absurd (by decide) h52) (fun h52 => ?_)
      refine j_iconst (v := nI 0) dX13_knownOne_55 (by decide) ?_
      refine j_goto (tgt := 68) dX13_knownOne_56 (by decide) ?_
      refine j_iret rfl dX13_knownOne_68 ?_
      exact hp _ mi ml (FG.rfl' mi ml) hz (fun p q h => by cases h)
  | inr p =>
    by_cases hc : tS B n p = 1 ∧ lsN B n p = 7
    · have h1 := hc.1
      have hw := (hz.2.1.2.2.2.1 h1).1
      have hle : (ixN N (tH B n p)) ≤ N.1 := rq_le _ _ _ (by omega)
      by_cases hf : (ixN N (tH B n p)) = N.1 ∨ ¬ N.2.2.1 (ixN N (tH B n p)) = s
      · have hq0 : fN B n N s p = .inl (2, tA B n p) := by unfold fN; rw [if_neg (fun q => q hc), if_pos hf]
        have hq : eb (.inr p) (kn1 B n N s) = .inl (2, tA B n p) := by show kn1 B n N s p = _; unfold kn1; rw [hq0]; rfl
        rw [hq] at hp
        refine enter 1 (by decide) rfl rfl (fun X => ?_)
        by_cases hff : (ixN N (tH B n p)) < N.1
        · have hss : ¬ smc (N.2.2.1 (ixN N (tH B n p))) = smc s := fun q => (hf.elim (fun z => by omega) (fun z => z ((smc_eq (hN2 _ hff) hs).mp q)))
          refine j_aload_n dX13_knownOne_0 rfl rfl ?_
          refine cV13_166 (d1 := 8) rfl dX13_knownOne_1 (by decide) (Nat.le_of_ble_eq_true rfl) ?_
          refine m_isName hz ?_
          rw [decide_eq_true hc]
          show J _ _ _ _ _ _ _ _ _ _ _ _ _ _ _ _ _ (.int (nI 1) :: _)
          refine j_if_ne (tgt := 12) dX13_knownOne_4 (by decide) (fun h4 => ?_) (fun h4 => absurd h4 (by decide))
          refine j_aload_n dX13_knownOne_12 rfl rfl ?_
          refine gR13_157 rfl dX13_knownOne_13 hRd ?_
          refine j_aload_n dX13_knownOne_16 rfl rfl ?_
          refine gL13_95 rfl dX13_knownOne_17 ?_
          rw [hw]
          refine cV13_170 (d1 := 1) (kM0 hM) dX13_knownOne_20 (by decide) (Nat.le_of_ble_eq_true rfl) ?_
          refine m_find hM hY hN ?_
          rw [if_pos hff]
          refine j_istore_n (lv2 := [_, _, _]) dX13_knownOne_23 rfl (by decide) rfl rfl ?_
          refine j_iload_n dX13_knownOne_24 rfl rfl ?_
          refine j_iconst (v := -1) dX13_knownOne_25 (by decide) ?_
          refine j_icmp_eq (tgt := 42) dX13_knownOne_26 (by decide) (fun h26 => absurd h26 (m1_ne (by omega))) (fun h26 => ?_)
          refine j_aload_n dX13_knownOne_29 rfl rfl ?_
          refine gR13_157 rfl dX13_knownOne_30 hRd ?_
          refine gR13_181 (kM0 hM) dX13_knownOne_33 (xM18 hY) ?_
          refine j_iload_n dX13_knownOne_36 rfl rfl ?_
          refine j_iald (kM18 hM) (inT (lM18 hM) (show (ixN N (tH B n p)) < 17 by omega) (by decide)) dX13_knownOne_37 ?_
          rw [nI_clamp (by omega), (hN.2.2 (ixN N (tH B n p)) (by omega)).2.1]
          refine j_iload_n dX13_knownOne_38 rfl rfl ?_
          refine j_icmp_eq (tgt := 47) dX13_knownOne_39 (by decide) (fun h39 => by exfalso; rw [nI_eq (by have := smc_le (N.2.2.1 (ixN N (tH B n p))); omega) (by have := smc_le s; omega)] at h39; exact hss h39) (fun h39 => ?_)
          refine j_aload_n dX13_knownOne_42 rfl rfl ?_
          refine j_iconst (v := nI 2) dX13_knownOne_43 (by decide) ?_
          refine cV13_125 (d1 := 1) rfl dX13_knownOne_44 (by decide) (Nat.le_of_ble_eq_true rfl) ?_
          refine m_flawN (k := 2) hz (fun m1 f1 z1 => ?_)
          refine j_aload_n dX13_knownOne_47 rfl rfl ?_
          refine gI13_79 rfl dX13_knownOne_48 ?_
          rw [z1.1]
          refine j_iconst (v := nI 5) dX13_knownOne_51 (by decide) ?_
          refine j_icmp_ne (tgt := 59) dX13_knownOne_52 (by decide) (fun h52 => absurd (by decide) h52) (fun h52 => ?_)
          refine j_iconst (v := nI 0) dX13_knownOne_55 (by decide) ?_
          refine j_goto (tgt := 68) dX13_knownOne_56 (by decide) ?_
          refine j_iret rfl dX13_knownOne_68 ?_
          exact hp _ m1 ml f1 z1 (fun p2 q h h2 => by cases h; rw [hq0] at h2; cases h2)
        · skip
          refine j_aload_n dX13_knownOne_0 rfl rfl ?_
          refine cV13_166 (d1 := 8) rfl dX13_knownOne_1 (by decide) (Nat.le_of_ble_eq_true rfl) ?_
          refine m_isName hz ?_
          rw [decide_eq_true hc]
          show J _ _ _ _ _ _ _ _ _ _ _ _ _ _ _ _ _ (.int (nI 1) :: _)
          refine j_if_ne (tgt := 12) dX13_knownOne_4 (by decide) (fun h4 => ?_) (fun h4 => absurd h4 (by decide))
          refine j_aload_n dX13_knownOne_12 rfl rfl ?_
          refine gR13_157 rfl dX13_knownOne_13 hRd ?_
          refine j_aload_n dX13_knownOne_16 rfl rfl ?_
          refine gL13_95 rfl dX13_knownOne_17 ?_
          rw [hw]
          refine cV13_170 (d1 := 1) (kM0 hM) dX13_knownOne_20 (by decide) (Nat.le_of_ble_eq_true rfl) ?_
          refine m_find hM hY hN ?_
          rw [if_neg hff]
          refine j_istore_n (lv2 := [_, _, _]) dX13_knownOne_23 rfl (by decide) rfl rfl ?_
          refine j_iload_n dX13_knownOne_24 rfl rfl ?_
          refine j_iconst (v := -1) dX13_knownOne_25 (by decide) ?_
          refine j_icmp_eq (tgt := 42) dX13_knownOne_26 (by decide) (fun h26 => ?_) (fun h26 => absurd (by decide) h26)
          refine j_aload_n dX13_knownOne_42 rfl rfl ?_
          refine j_iconst (v := nI 2) dX13_knownOne_43 (by decide) ?_
          refine cV13_125 (d1 := 1) rfl dX13_knownOne_44 (by decide) (Nat.le_of_ble_eq_true rfl) ?_
          refine m_flawN (k := 2) hz (fun m1 f1 z1 => ?_)
          refine j_aload_n dX13_knownOne_47 rfl rfl ?_
          refine gI13_79 rfl dX13_knownOne_48 ?_
          rw [z1.1]
          refine j_iconst (v := nI 5) dX13_knownOne_51 (by decide) ?_
          refine j_icmp_ne (tgt := 59) dX13_knownOne_52 (by decide) (fun h52 => absurd (by decide) h52) (fun h52 => ?_)
          refine j_iconst (v := nI 0) dX13_knownOne_55 (by decide) ?_
          refine j_goto (tgt := 68) dX13_knownOne_56 (by decide) ?_
          refine j_iret rfl dX13_knownOne_68 ?_
          exact hp _ m1 ml f1 z1 (fun p2 q h h2 => by cases h; rw [hq0] at h2; cases h2)
      · have hff : (ixN N (tH B n p)) < N.1 := by omega
        have hss : N.2.2.1 (ixN N (tH B n p)) = s := by omega
        have hq0 : fN B n N s p = .inr (N.2.2.2 (ixN N (tH B n p))) := by unfold fN; rw [if_neg (fun q => q hc), if_neg hf]
        have hq : eb (.inr p) (kn1 B n N s) = .inr p := by show kn1 B n N s p = _; unfold kn1; rw [hq0]; rfl
        rw [hq] at hp
        refine enter 1 (by decide) rfl rfl (fun X => ?_)
        refine j_aload_n dX13_knownOne_0 rfl rfl ?_
        refine cV13_166 (d1 := 8) rfl dX13_knownOne_1 (by decide) (Nat.le_of_ble_eq_true rfl) ?_
        refine m_isName hz ?_
        rw [decide_eq_true hc]
        show J _ _ _ _ _ _ _ _ _ _ _ _ _ _ _ _ _ (.int (nI 1) :: _)
        refine j_if_ne (tgt := 12) dX13_knownOne_4 (by decide) (fun h4 => ?_) (fun h4 => absurd h4 (by decide))
        refine j_aload_n dX13_knownOne_12 rfl rfl ?_
        refine gR13_157 rfl dX13_knownOne_13 hRd ?_
        refine j_aload_n dX13_knownOne_16 rfl rfl ?_
        refine gL13_95 rfl dX13_knownOne_17 ?_
        rw [hw]
        refine cV13_170 (d1 := 1) (kM0 hM) dX13_knownOne_20 (by decide) (Nat.le_of_ble_eq_true rfl) ?_
        refine m_find hM hY hN ?_
        rw [if_pos hff]
        refine j_istore_n (lv2 := [_, _, _]) dX13_knownOne_23 rfl (by decide) rfl rfl ?_
        refine j_iload_n dX13_knownOne_24 rfl rfl ?_
        refine j_iconst (v := -1) dX13_knownOne_25 (by decide) ?_
        refine j_icmp_eq (tgt := 42) dX13_knownOne_26 (by decide) (fun h26 => absurd h26 (m1_ne (by omega))) (fun h26 => ?_)
        refine j_aload_n dX13_knownOne_29 rfl rfl ?_
        refine gR13_157 rfl dX13_knownOne_30 hRd ?_
        refine gR13_181 (kM0 hM) dX13_knownOne_33 (xM18 hY) ?_
        refine j_iload_n dX13_knownOne_36 rfl rfl ?_
        refine j_iald (kM18 hM) (inT (lM18 hM) (show (ixN N (tH B n p)) < 17 by omega) (by decide)) dX13_knownOne_37 ?_
        rw [nI_clamp (by omega), (hN.2.2 (ixN N (tH B n p)) (by omega)).2.1]
        refine j_iload_n dX13_knownOne_38 rfl rfl ?_
        refine j_icmp_eq (tgt := 47) dX13_knownOne_39 (by decide) (fun h39 => ?_) (fun h39 => by exfalso; exact h39 (by rw [hss]))
        refine j_aload_n dX13_knownOne_47 rfl rfl ?_
        refine gI13_79 rfl dX13_knownOne_48 ?_
        rw [hz.2.1.2.1, show sM (tS B n p) = 2 by rw [h1]; rfl]
        refine j_iconst (v := nI 5) dX13_knownOne_51 (by decide) ?_
        refine j_icmp_ne (tgt := 59) dX13_knownOne_52 (by decide) (fun h52 => ?_) (fun h52 => absurd h52 (by decide))
        refine j_aload_n dX13_knownOne_59 rfl rfl ?_
        refine gR13_157 rfl dX13_knownOne_60 hRd ?_
        refine gR13_184 (kM0 hM) dX13_knownOne_63 (xM19 hY) ?_
        refine j_iload_n dX13_knownOne_66 rfl rfl ?_
        refine j_iald (kM19 hM) (inT (lM19 hM) (show (ixN N (tH B n p)) < 17 by omega) (by decide)) dX13_knownOne_67 ?_
        rw [nI_clamp (by omega), (hN.2.2 (ixN N (tH B n p)) (by omega)).2.2]
        refine j_iret rfl dX13_knownOne_68 ?_
        exact hp _ mi ml (FG.rfl' mi ml) hz (fun p2 q h h2 => by cases h; rw [hq0] at h2; cases h2; rfl)
    · have hq0 : fN B n N s p = .inl (1, tA B n p) := by unfold fN; rw [if_pos hc]
      have hq : eb (.inr p) (kn1 B n N s) = .inl (1, tA B n p) := by show kn1 B n N s p = _; unfold kn1; rw [hq0]; rfl
      rw [hq] at hp
      refine enter 1 (by decide) rfl rfl (fun X => ?_)
      by_cases hff : ixN N (ml 1000 15) < N.1
      · skip
        refine j_aload_n dX13_knownOne_0 rfl rfl ?_
        refine cV13_166 (d1 := 8) rfl dX13_knownOne_1 (by decide) (Nat.le_of_ble_eq_true rfl) ?_
        refine m_isName hz ?_
        rw [decide_eq_false hc]
        show J _ _ _ _ _ _ _ _ _ _ _ _ _ _ _ _ _ (.int (nI 0) :: _)
        refine j_if_ne (tgt := 12) dX13_knownOne_4 (by decide) (fun h4 => absurd (by decide) h4) (fun h4 => ?_)
        refine j_aload_n dX13_knownOne_7 rfl rfl ?_
        refine j_iconst (v := nI 1) dX13_knownOne_8 (by decide) ?_
        refine cV13_125 (d1 := 1) rfl dX13_knownOne_9 (by decide) (Nat.le_of_ble_eq_true rfl) ?_
        refine m_flawN (k := 1) hz (fun m1 f1 z1 => ?_)
        refine j_aload_n dX13_knownOne_12 rfl rfl ?_
        refine gR13_157 rfl dX13_knownOne_13 hRd ?_
        refine j_aload_n dX13_knownOne_16 rfl rfl ?_
        refine gL13_95 rfl dX13_knownOne_17 ?_
        refine cV13_170 (d1 := 1) (kM0 hM) dX13_knownOne_20 (by decide) (Nat.le_of_ble_eq_true rfl) ?_
        refine m_find (h := ml 1000 15) hM hY (hN.f hM f1) ?_
        rw [if_pos hff]
        refine j_istore_n (lv2 := [_, _, _]) dX13_knownOne_23 rfl (by decide) rfl rfl ?_
        refine j_iload_n dX13_knownOne_24 rfl rfl ?_
        refine j_iconst (v := -1) dX13_knownOne_25 (by decide) ?_
        refine j_icmp_eq (tgt := 42) dX13_knownOne_26 (by decide) (fun h26 => absurd h26 (m1_ne (by omega))) (fun h26 => ?_)
        refine j_aload_n dX13_knownOne_29 rfl rfl ?_
        refine gR13_157 rfl dX13_knownOne_30 hRd ?_
        refine gR13_181 (kM0 hM) dX13_knownOne_33 (xM18 hY) ?_
        refine j_iload_n dX13_knownOne_36 rfl rfl ?_
        refine j_iald (kM18 hM) (inT (lM18 hM) (show (ixN N (ml 1000 15)) < 17 by omega) (by decide)) dX13_knownOne_37 ?_
        rw [nI_clamp (by omega), ((hN.f hM f1).2.2 (ixN N (ml 1000 15)) (by omega)).2.1]
        refine j_iload_n dX13_knownOne_38 rfl rfl ?_
        refine j_icmp_eq (tgt := 47) dX13_knownOne_39 (by decide) (fun h39 => ?_) (fun h39 => ?_)
        all_goals rw [nI_eq (by have := smc_le (N.2.2.1 (ixN N (ml 1000 15))); omega) (by have := smc_le s; omega)] at h39
        · refine j_aload_n dX13_knownOne_47 rfl rfl ?_
          refine gI13_79 rfl dX13_knownOne_48 ?_
          rw [z1.1]
          refine j_iconst (v := nI 5) dX13_knownOne_51 (by decide) ?_
          refine j_icmp_ne (tgt := 59) dX13_knownOne_52 (by decide) (fun h52 => absurd (by decide) h52) (fun h52 => ?_)
          refine j_iconst (v := nI 0) dX13_knownOne_55 (by decide) ?_
          refine j_goto (tgt := 68) dX13_knownOne_56 (by decide) ?_
          refine j_iret rfl dX13_knownOne_68 ?_
          exact hp _ m1 ml f1 z1 (fun p2 q h h2 => by cases h; rw [hq0] at h2; cases h2)
        · refine j_aload_n dX13_knownOne_42 rfl rfl ?_
          refine j_iconst (v := nI 2) dX13_knownOne_43 (by decide) ?_
          refine cV13_125 (d1 := 1) rfl dX13_knownOne_44 (by decide) (Nat.le_of_ble_eq_true rfl) ?_
          refine m_flawO z1.1 ?_
          refine j_aload_n dX13_knownOne_47 rfl rfl ?_
          refine gI13_79 rfl dX13_knownOne_48 ?_
          rw [z1.1]
          refine j_iconst (v := nI 5) dX13_knownOne_51 (by decide) ?_
          refine j_icmp_ne (tgt := 59) dX13_knownOne_52 (by decide) (fun h52 => absurd (by decide) h52) (fun h52 => ?_)
          refine j_iconst (v := nI 0) dX13_knownOne_55 (by decide) ?_
          refine j_goto (tgt := 68) dX13_knownOne_56 (by decide) ?_
          refine j_iret rfl dX13_knownOne_68 ?_
          exact hp _ m1 ml f1 z1 (fun p2 q h h2 => by cases h; rw [hq0] at h2; cases h2)
      · skip
        refine j_aload_n dX13_knownOne_0 rfl rfl ?_
        refine cV13_166 (d1 := 8) rfl dX13_knownOne_1 (by decide) (Nat.le_of_ble_eq_true rfl) ?_
        refine m_isName hz ?_
        rw [decide_eq_false hc]
        show J _ _ _ _ _ _ _ _ _ _ _ _ _ _ _ _ _ (.int (nI 0) :: _)
        refine j_if_ne (tgt := 12) dX13_knownOne_4 (by decide) (fun h4 => absurd (by decide) h4) (fun h4 => ?_)
        refine j_aload_n dX13_knownOne_7 rfl rfl ?_
        refine j_iconst (v := nI 1) dX13_knownOne_8 (by decide) ?_
        refine cV13_125 (d1 := 1) rfl dX13_knownOne_9 (by decide) (Nat.le_of_ble_eq_true rfl) ?_
        refine m_flawN (k := 1) hz (fun m1 f1 z1 => ?_)
        refine j_aload_n dX13_knownOne_12 rfl rfl ?_
        refine gR13_157 rfl dX13_knownOne_13 hRd ?_
        refine j_aload_n dX13_knownOne_16 rfl rfl ?_
        refine gL13_95 rfl dX13_knownOne_17 ?_
        refine cV13_170 (d1 := 1) (kM0 hM) dX13_knownOne_20 (by decide) (Nat.le_of_ble_eq_true rfl) ?_
        refine m_find (h := ml 1000 15) hM hY (hN.f hM f1) ?_
        rw [if_neg hff]
        refine j_istore_n (lv2 := [_, _, _]) dX13_knownOne_23 rfl (by decide) rfl rfl ?_
        refine j_iload_n dX13_knownOne_24 rfl rfl ?_
        refine j_iconst (v := -1) dX13_knownOne_25 (by decide) ?_
        refine j_icmp_eq (tgt := 42) dX13_knownOne_26 (by decide) (fun h26 => ?_) (fun h26 => absurd (by decide) h26)
        refine j_aload_n dX13_knownOne_42 rfl rfl ?_
        refine j_iconst (v := nI 2) dX13_knownOne_43 (by decide) ?_
        refine cV13_125 (d1 := 1) rfl dX13_knownOne_44 (by decide) (Nat.le_of_ble_eq_true rfl) ?_
        refine m_flawO z1.1 ?_
        refine j_aload_n dX13_knownOne_47 rfl rfl ?_
        refine gI13_79 rfl dX13_knownOne_48 ?_
        rw [z1.1]
        refine j_iconst (v := nI 5) dX13_knownOne_51 (by decide) ?_
        refine j_icmp_ne (tgt := 59) dX13_knownOne_52 (by decide) (fun h52 => absurd (by decide) h52) (fun h52 => ?_)
        refine j_iconst (v := nI 0) dX13_knownOne_55 (by decide) ?_
        refine j_goto (tgt := 68) dX13_knownOne_56 (by decide) ?_
        refine j_iret rfl dX13_knownOne_68 ?_
        exact hp _ m1 ml f1 z1 (fun p2 q h h2 => by cases h; rw [hq0] at h2; cases h2)
theorem kn1_t {N : NS} {s q : Nat} (h : kn1 B n N s p = .inr q) : q = p ∧ tS B n p = 1 := by
  unfold kn1 fN at h
  by_cases hc : tS B n p = 1 ∧ lsN B n p = 7
  · rw [if_neg (fun q => q hc)] at h
    by_cases h2 : ixN N (tH B n p) = N.1 ∨ ¬ N.2.2.1 (ixN N (tH B n p)) = s
    · rw [if_pos h2] at h; cases h
    · rw [if_neg h2] at h; cases h; exact ⟨rfl, hc.1⟩
  · rw [if_pos hc] at h; cases h
def kn2 (B : Nat → Nat) (n : Nat) (N : NS) (s p : Nat) : ER Nat := es (fun _ => tE B n p) (fN B n N s p)
theorem m_goesX {x : ER Nat} (hX : XM mr) (hB : RBM mi B n) (hz : MZ mi ml B n x) (h4 : ∀ p, x = .inr p → tS B n p ≠ 4) (hp : ∀ m l, FG mi ml m l → MZ m l B n (eb x (fun p => .inr (tE B n p))) → post none m l mr dom) : CT G 2 0 0 yX13_goesOn cX13_goesOn 3 none [.ref 1000] mi ml mr dom post := by
  cases x with
  | inl e => exact m_goesO hz.1 (hp mi ml (FG.rfl' mi ml) hz)
  | inr p => exact m_goes hX hB hz (h4 p rfl) hp
theorem m_readKnown {N : NS} {s : Nat} {x : ER Nat} (hX : XM mr) (hM : MM M) (hY : XT mr M) (hRd : mr 1000 4 = some M) (hB : RBM mi B n) (hN : RNM mi ml M N) (hN2 : ∀ k, k < N.1 → N.2.2.1 k = 1 ∨ N.2.2.1 k = 3 ∨ N.2.2.1 k = 4) (hs : s = 1 ∨ s = 3) (hz : MZ mi ml B n x) (hp : ∀ (v : Int32) m l, FG mi ml m l → MZ m l B n (eb x (kn2 B n N s)) → (∀ p q, x = .inr p → fN B n N s p = .inr q → v = nI q) → post (some (.int v)) m l mr dom) : CT G 10 0 0 yX13_readKnown cX13_readKnown 3 (some .int) [.ref 1000, .int (nI (smc s))] mi ml mr dom post := by
  refine enter 1 (by decide) rfl rfl (fun X => ?_)
  refine j_aload_n dX13_readKnown_0 rfl rfl ?_
  refine j_iload_n dX13_readKnown_1 rfl rfl ?_
  refine cV13_187 (d1 := 9) rfl dX13_readKnown_2 (by decide) (Nat.le_of_ble_eq_true rfl) ?_
  refine m_knownOne hX hM hY hRd hB hN hN2 hs hz (fun v1 m1 l1 f1 z1 g1 => ?_)
  refine j_istore_n (lv2 := [_, _, _]) dX13_readKnown_5 rfl (by decide) rfl rfl ?_
  refine j_aload_n dX13_readKnown_6 rfl rfl ?_
  refine cV13_118 (d1 := 2) rfl dX13_readKnown_7 (by decide) (Nat.le_of_ble_eq_true rfl) ?_
  refine m_goesX hX (hB.f f1) z1 (fun p hq => ?_) (fun m2 l2 f2 z2 => ?_)
  · cases x with
    | inl e => cases hq
    | inr p0 => have := kn1_t hq; rw [this.1]; omega
  · have e2 : eb (eb x (kn1 B n N s)) (fun p => (.inr (tE B n p) : ER Nat)) = eb x (kn2 B n N s) := by
      cases x with
      | inl e => rfl
      | inr p0 =>
        show eb (kn1 B n N s p0) _ = kn2 B n N s p0
        unfold kn1 kn2
        cases fN B n N s p0 <;> rfl
    rw [e2] at z2
    refine j_iload_n dX13_readKnown_10 rfl rfl ?_
    refine j_iret rfl dX13_readKnown_11 ?_
    exact hp v1 m2 l2 (f1.tr f2) z2 g1
end M13j
