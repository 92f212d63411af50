/-! cells of a town that is being read; spreadLook, add, clear -/
def cC (r i : Nat) : Nat := if r = 0 then (if i = 4 then 2 else 0) else if r = 1 then 1 else if r = 2 then 3 else if r ≤ 6 then 10 + i else if r = 7 then 20 + i / 5 else if r ≤ 10 then 30 + i else if r ≤ 13 then 40 + i else 50 + i
def cD (r i : Nat) : Nat := if r = 0 then (if i = 4 then 0 else if i < 4 then i + 1 else i) else if r ≤ 2 then i else if r ≤ 6 then r - 4 else if r = 7 then i % 5 else if r ≤ 10 then r - 8 else if r ≤ 13 then r - 11 else r - 14
def dU (r i : Nat) : Prop := (r = 0 ∧ i < 9) ∨ (r = 1 ∧ i < 6) ∨ (r = 2 ∧ i < 36) ∨ (4 ≤ r ∧ r ≤ 6 ∧ i < 6) ∨ (r = 7 ∧ i < 30) ∨ (8 ≤ r ∧ r ≤ 10 ∧ i < 5) ∨ (11 ≤ r ∧ r ≤ 13 ∧ i < 8) ∨ (14 ≤ r ∧ r ≤ 16 ∧ i < 5)
def dm (t : TW) (r i : Nat) : Prop := (r = 0 ∧ i < 9 ∧ (i < 3 → 0 < t 0 2)) ∨ (r = 1 ∧ i < t 0 3) ∨ (r = 2 ∧ i < 36) ∨ (4 ≤ r ∧ r ≤ 6 ∧ i < t 0 5) ∨ (r = 7 ∧ i < 5 * t 0 5) ∨ (8 ≤ r ∧ r ≤ 10 ∧ i < t 0 6) ∨ (11 ≤ r ∧ r ≤ 13 ∧ i < t 0 7) ∨ (14 ≤ r ∧ r ≤ 16 ∧ i < t 0 8)
def iR (c s : Nat) : Nat := if c = 0 ∨ c = 2 then 0 else if c = 1 then 1 else if c = 3 then 2 else if c < 20 then 4 + s else if c < 30 then 7 else if c < 40 then 8 + s else if c < 50 then 11 + s else 14 + s
def iI (c s : Nat) : Nat := if c = 0 then (if s ≤ 4 then s - 1 else s) else if c = 2 then 4 else if c ≤ 3 then s else if c < 20 then c - 10 else if c < 30 then 5 * (c - 20) + s else if c < 40 then c - 30 else if c < 50 then c - 40 else c - 50
theorem cC_all : ((List.range 17).all fun r => (List.range 36).all fun i => !decide ((r = 0 ∧ i < 9) ∨ (r = 1 ∧ i < 6) ∨ (r = 2 ∧ i < 36) ∨ (4 ≤ r ∧ r ≤ 6 ∧ i < 6) ∨ (r = 7 ∧ i < 30) ∨ (8 ≤ r ∧ r ≤ 10 ∧ i < 5) ∨ (11 ≤ r ∧ r ≤ 13 ∧ i < 8) ∨ (14 ≤ r ∧ r ≤ 16 ∧ i < 5)) || (decide (iR (cC r i) (cD r i) = r) && decide (iI (cC r i) (cD r i) = i) && decide (cC r i < 60))) = true := by decide +kernel
theorem cC_inv (r : Nat) (hr : r < 17) (i : Nat) (hi : i < 36) (h : dU r i) : iR (cC r i) (cD r i) = r ∧ iI (cC r i) (cD r i) = i ∧ cC r i < 60 := by
  have a := List.all_eq_true.mp (List.all_eq_true.mp cC_all r (List.mem_range.mpr hr)) i (List.mem_range.mpr hi)
  rw [decide_eq_true (show ((r = 0 ∧ i < 9) ∨ (r = 1 ∧ i < 6) ∨ (r = 2 ∧ i < 36) ∨ (4 ≤ r ∧ r ≤ 6 ∧ i < 6) ∨ (r = 7 ∧ i < 30) ∨ (8 ≤ r ∧ r ≤ 10 ∧ i < 5) ∨ (11 ≤ r ∧ r ≤ 13 ∧ i < 8) ∨ (14 ≤ r ∧ r ≤ 16 ∧ i < 5)) from h), Bool.not_true, Bool.false_or, Bool.and_eq_true, Bool.and_eq_true, decide_eq_true_eq, decide_eq_true_eq, decide_eq_true_eq] at a
  exact ⟨a.1.1, a.1.2, a.2⟩
theorem cC_inj {r i r' i' : Nat} (h : dU r i) (h' : dU r' i') (hc : cC r i = cC r' i') (hd : cD r i = cD r' i') : r = r' ∧ i = i' := by
  have b : ∀ r i, dU r i → r < 17 ∧ i < 36 := fun r i h => by unfold dU at h; omega
  obtain ⟨a1, a2, -⟩ := cC_inv r (b r i h).1 i (b r i h).2 h
  obtain ⟨b1, b2, -⟩ := cC_inv r' (b r' i' h').1 i' (b r' i' h').2 h'
  rw [hc, hd] at a1 a2
  exact ⟨a1.symm.trans b1, a2.symm.trans b2⟩
theorem cC_60 {r i : Nat} (h : dU r i) : cC r i < 60 := by
  have b : r < 17 ∧ i < 36 := by unfold dU at h; omega
  exact (cC_inv r b.1 i b.2 h).2.2
def RPx (mi : MI) (T : Nat) (S : Nat → Nat → Prop) (t : TW) : Prop := ∀ r i, S r i → mi (T + cC r i) (cD r i) = nI (t r i)
theorem ut_at (t : TW) (r i x : Nat) : ut t r i x r i = x := by simp [ut]
theorem ut_ne (t : TW) {r i r' i' : Nat} (x : Nat) (h : ¬ (r' = r ∧ i' = i)) : ut t r i x r' i' = t r' i' := by unfold ut; rw [if_neg h]
theorem RPx.ut {mi : MI} {T : Nat} {S : Nat → Nat → Prop} {t : TW} (h : RPx mi T S t) (hS : ∀ r i, S r i → dU r i) {r i x a s : Nat} (hU : dU r i) (ha : a = T + cC r i) (hs : s = cD r i) : RPx (up mi a s (nI x)) T (fun r' i' => S r' i' ∨ (r' = r ∧ i' = i)) (ut t r i x) ∧ ∀ r' i', (S r' i' ∨ (r' = r ∧ i' = i)) → dU r' i' := by
  subst ha hs
  refine ⟨fun r' i' h' => ?_, fun r' i' h' => ?_⟩
  · by_cases e : r' = r ∧ i' = i
    · rw [e.1, e.2, up_at, ut_at]
    · have hs' : S r' i' := h'.resolve_right e
      rw [ut_ne _ _ e, ← h r' i' hs']
      by_cases hc : cC r' i' = cC r i
      · have hd : cD r' i' ≠ cD r i := fun q => e (cC_inj (hS _ _ hs') hU hc q)
        rw [hc, up_ne _ _ hd]
      · rw [up_off _ _ (by omega)]
  · rcases h' with q | q
    · exact hS _ _ q
    · rw [q.1, q.2]; exact hU
theorem RPx.mono {mi : MI} {T : Nat} {S S' : Nat → Nat → Prop} {t : TW} (h : RPx mi T S t) (hs : ∀ r i, S' r i → S r i) : RPx mi T S' t := fun r i q => h r i (hs r i q)
theorem RPx.cg {mi mi' : MI} {T : Nat} {S : Nat → Nat → Prop} {t : TW} (h : RPx mi T S t) (hS : ∀ r i, S r i → dU r i) (hm : ∀ c, c < 60 → mi' (T + c) = mi (T + c)) : RPx mi' T S t := fun r i q => by rw [hm _ (cC_60 (hS r i q))]; exact h r i q
/-- the class's cells hold the town read so far -/
def RP (mi : MI) (T : Nat) (t : TW) : Prop := mi T 0 = nI (if 0 < t 0 2 then 1 else 0) ∧ RPx mi T (dm t) t
theorem dm_U {t : TW} (hW : WT t) : ∀ r i, dm t r i → dU r i := fun r i h => by
  have w := hW.1
  unfold dm at h; unfold dU; omega
theorem RP.cg {mi mi' : MI} {T : Nat} {t : TW} (hW : WT t) (h : RP mi T t) (hm : ∀ c, c < 60 → mi' (T + c) = mi (T + c)) : RP mi' T t := ⟨by have := hm 0 (by omega); rw [Nat.add_zero] at this; rw [this]; exact h.1, h.2.cg (dm_U hW) hm⟩
section RPA
variable {mi : MI} {T : Nat} {t : TW}
theorem RP.houses (h : RP mi T t) : mi T 4 = nI (t 0 3) := h.2 0 3 (Or.inl ⟨rfl, by decide, fun q => absurd q (by decide)⟩)
theorem RP.lanes (h : RP mi T t) : mi (T + 2) 0 = nI (t 0 4) := h.2 0 4 (Or.inl ⟨rfl, by decide, fun q => absurd q (by decide)⟩)
theorem RP.people (h : RP mi T t) : mi T 5 = nI (t 0 5) := h.2 0 5 (Or.inl ⟨rfl, by decide, fun q => absurd q (by decide)⟩)
theorem RP.goods (h : RP mi T t) : mi T 6 = nI (t 0 6) := h.2 0 6 (Or.inl ⟨rfl, by decide, fun q => absurd q (by decide)⟩)
theorem RP.visits (h : RP mi T t) : mi T 7 = nI (t 0 7) := h.2 0 7 (Or.inl ⟨rfl, by decide, fun q => absurd q (by decide)⟩)
theorem RP.prints (h : RP mi T t) : mi T 8 = nI (t 0 8) := h.2 0 8 (Or.inl ⟨rfl, by decide, fun q => absurd q (by decide)⟩)
theorem RP.min (h : RP mi T t) {i : Nat} (hi : i < 36) : mi (T + 3) i = nI (t 2 i) := h.2 2 i (Or.inr (Or.inr (Or.inl ⟨rfl, hi⟩)))
end RPA
section C6d
variable {G : GG} {post : PT} {mi : MI} {ml : ML} {mr : MR} {dom : List Nat} {B : Nat → Nat} {n p T : Nat}
theorem c_spread3 {a u : Nat} (hk : kd a = 15) (hl : ln a = 5) (hu : u < 2 ^ 30) (hp : post none (up (up (up mi a 2 (nI (u % 4))) a 1 (nI ((u / 4) % 4))) a 0 (nI ((u / 4 / 4) % 4))) ml mr dom) : CT G 1 0 0 yX6_spreadLook cX6_spreadLook 6 none [.int (nI u), .ref a, .int 0, .int 3] mi ml mr dom post := by
  refine enter 2 (by decide) rfl rfl (fun X => ?_)
  refine j_iload_n dX6_spreadLook_0 rfl rfl ?_
  refine j_istore (lv2 := [_, _, _, _, _, _]) dX6_spreadLook_1 (by decide) rfl rfl ?_
  refine j_iload_n dX6_spreadLook_3 rfl rfl ?_
  refine j_iload_n dX6_spreadLook_4 rfl rfl ?_
  refine j_iadd dX6_spreadLook_5 ?_
  refine j_iconst (v := 1) dX6_spreadLook_6 (by decide) ?_
  refine j_isub dX6_spreadLook_7 ?_
  rw [show (0 : Int32) + 3 - 1 = nI 2 from rfl]
  refine j_istore (lv2 := [_, _, _, _, _, _]) dX6_spreadLook_8 (by decide) rfl rfl ?_
  refine j_iload dX6_spreadLook_10 rfl ?_
  refine j_iload_n dX6_spreadLook_12 rfl rfl ?_
  refine j_icmp_lt (tgt := 36) dX6_spreadLook_13 (by decide) (fun h13 => absurd h13 (by decide)) (fun _ => ?_)
  refine j_aload_n dX6_spreadLook_16 rfl rfl ?_
  refine j_iload dX6_spreadLook_17 rfl ?_
  refine j_iload dX6_spreadLook_19 rfl ?_
  refine j_iconst (v := 4) dX6_spreadLook_21 (by decide) ?_
  refine j_irem dX6_spreadLook_22 (by decide) ?_
  rw [show (4 : Int32) = nI 4 from rfl, pk_rem (by omega) (by omega) (by omega)]
  refine j_iast hk (inT hl (show 2 < 5 by omega) (by decide)) dX6_spreadLook_23 ?_
  rw [nI_clamp (by omega)]
  refine j_iload dX6_spreadLook_24 rfl ?_
  refine j_iconst (v := 4) dX6_spreadLook_26 (by decide) ?_
  refine j_idiv dX6_spreadLook_27 (by decide) ?_
  rw [show (4 : Int32) = nI 4 from rfl, pk_div (by omega) (by omega) (by omega)]
  refine j_istore (lv2 := [_, _, _, _, _, _]) dX6_spreadLook_28 (by decide) rfl rfl ?_
  refine j_iincm (lv2 := [_, _, _, _, _, _]) dX6_spreadLook_30 rfl (by decide) rfl rfl ?_
  rw [show nI 2 - 1 = nI 1 from rfl]
  refine j_goto (tgt := 10) dX6_spreadLook_33 (by decide) ?_
  refine j_iload dX6_spreadLook_10 rfl ?_
  refine j_iload_n dX6_spreadLook_12 rfl rfl ?_
  refine j_icmp_lt (tgt := 36) dX6_spreadLook_13 (by decide) (fun h13 => absurd h13 (by decide)) (fun _ => ?_)
  refine j_aload_n dX6_spreadLook_16 rfl rfl ?_
  refine j_iload dX6_spreadLook_17 rfl ?_
  refine j_iload dX6_spreadLook_19 rfl ?_
  refine j_iconst (v := 4) dX6_spreadLook_21 (by decide) ?_
  refine j_irem dX6_spreadLook_22 (by decide) ?_
  rw [show (4 : Int32) = nI 4 from rfl, pk_rem (by omega) (by omega) (by omega)]
  refine j_iast hk (inT hl (show 1 < 5 by omega) (by decide)) dX6_spreadLook_23 ?_
  rw [nI_clamp (by omega)]
  refine j_iload dX6_spreadLook_24 rfl ?_
  refine j_iconst (v := 4) dX6_spreadLook_26 (by decide) ?_
  refine j_idiv dX6_spreadLook_27 (by decide) ?_
  rw [show (4 : Int32) = nI 4 from rfl, pk_div (by omega) (by omega) (by omega)]
  refine j_istore (lv2 := [_, _, _, _, _, _]) dX6_spreadLook_28 (by decide) rfl rfl ?_
  refine j_iincm (lv2 := [_, _, _, _, _, _]) dX6_spreadLook_30 rfl (by decide) rfl rfl ?_
  rw [show nI 1 - 1 = nI 0 from rfl]
  refine j_goto (tgt := 10) dX6_spreadLook_33 (by decide) ?_
  refine j_iload dX6_spreadLook_10 rfl ?_
  refine j_iload_n dX6_spreadLook_12 rfl rfl ?_
  refine j_icmp_lt (tgt := 36) dX6_spreadLook_13 (by decide) (fun h13 => absurd h13 (by decide)) (fun _ => ?_)
  refine j_aload_n dX6_spreadLook_16 rfl rfl ?_
  refine j_iload dX6_spreadLook_17 rfl ?_
  refine j_iload dX6_spreadLook_19 rfl ?_
  refine j_iconst (v := 4) dX6_spreadLook_21 (by decide) ?_
  refine j_irem dX6_spreadLook_22 (by decide) ?_
  rw [show (4 : Int32) = nI 4 from rfl, pk_rem (by omega) (by omega) (by omega)]
  refine j_iast hk (inT hl (show 0 < 5 by omega) (by decide)) dX6_spreadLook_23 ?_
  rw [nI_clamp (by omega)]
  refine j_iload dX6_spreadLook_24 rfl ?_
  refine j_iconst (v := 4) dX6_spreadLook_26 (by decide) ?_
  refine j_idiv dX6_spreadLook_27 (by decide) ?_
  rw [show (4 : Int32) = nI 4 from rfl, pk_div (by omega) (by omega) (by omega)]
  refine j_istore (lv2 := [_, _, _, _, _, _]) dX6_spreadLook_28 (by decide) rfl rfl ?_
  refine j_iincm (lv2 := [_, _, _, _, _, _]) dX6_spreadLook_30 rfl (by decide) rfl rfl ?_
  rw [show nI 0 - 1 = (-1 : Int32) from rfl]
  refine j_goto (tgt := 10) dX6_spreadLook_33 (by decide) ?_
  refine j_iload dX6_spreadLook_10 rfl ?_
  refine j_iload_n dX6_spreadLook_12 rfl rfl ?_
  refine j_icmp_lt (tgt := 36) dX6_spreadLook_13 (by decide) (fun _ => ?_) (fun h13 => absurd (by decide) h13)
  refine j_vret rfl dX6_spreadLook_36 ?_
  exact hp
theorem c_spread2 {a u : Nat} (hk : kd a = 15) (hl : ln a = 5) (hu : u < 2 ^ 30) (hp : post none (up (up mi a 4 (nI (u % 4))) a 3 (nI ((u / 4) % 4))) ml mr dom) : CT G 1 0 0 yX6_spreadLook cX6_spreadLook 6 none [.int (nI u), .ref a, .int 3, .int 2] mi ml mr dom post := by
  refine enter 2 (by decide) rfl rfl (fun X => ?_)
  refine j_iload_n dX6_spreadLook_0 rfl rfl ?_
  refine j_istore (lv2 := [_, _, _, _, _, _]) dX6_spreadLook_1 (by decide) rfl rfl ?_
  refine j_iload_n dX6_spreadLook_3 rfl rfl ?_
  refine j_iload_n dX6_spreadLook_4 rfl rfl ?_
  refine j_iadd dX6_spreadLook_5 ?_
  refine j_iconst (v := 1) dX6_spreadLook_6 (by decide) ?_
  refine j_isub dX6_spreadLook_7 ?_
  rw [show (3 : Int32) + 2 - 1 = nI 4 from rfl]
  refine j_istore (lv2 := [_, _, _, _, _, _]) dX6_spreadLook_8 (by decide) rfl rfl ?_
  refine j_iload dX6_spreadLook_10 rfl ?_
  refine j_iload_n dX6_spreadLook_12 rfl rfl ?_
  refine j_icmp_lt (tgt := 36) dX6_spreadLook_13 (by decide) (fun h13 => absurd h13 (by decide)) (fun _ => ?_)
  refine j_aload_n dX6_spreadLook_16 rfl rfl ?_
  refine j_iload dX6_spreadLook_17 rfl ?_
  refine j_iload dX6_spreadLook_19 rfl ?_
  refine j_iconst (v := 4) dX6_spreadLook_21 (by decide) ?_
  refine j_irem dX6_spreadLook_22 (by decide) ?_
  rw [show (4 : Int32) = nI 4 from rfl, pk_rem (by omega) (by omega) (by omega)]
  refine j_iast hk (inT hl (show 4 < 5 by omega) (by decide)) dX6_spreadLook_23 ?_
  rw [nI_clamp (by omega)]
  refine j_iload dX6_spreadLook_24 rfl ?_
  refine j_iconst (v := 4) dX6_spreadLook_26 (by decide) ?_
  refine j_idiv dX6_spreadLook_27 (by decide) ?_
  rw [show (4 : Int32) = nI 4 from rfl, pk_div (by omega) (by omega) (by omega)]
  refine j_istore (lv2 := [_, _, _, _, _, _]) dX6_spreadLook_28 (by decide) rfl rfl ?_
  refine j_iincm (lv2 := [_, _, _, _, _, _]) dX6_spreadLook_30 rfl (by decide) rfl rfl ?_
  rw [show nI 4 - 1 = nI 3 from rfl]
  refine j_goto (tgt := 10) dX6_spreadLook_33 (by decide) ?_
  refine j_iload dX6_spreadLook_10 rfl ?_
  refine j_iload_n dX6_spreadLook_12 rfl rfl ?_
  refine j_icmp_lt (tgt := 36) dX6_spreadLook_13 (by decide) (fun h13 => absurd h13 (by decide)) (fun _ => ?_)
  refine j_aload_n dX6_spreadLook_16 rfl rfl ?_
  refine j_iload dX6_spreadLook_17 rfl ?_
  refine j_iload dX6_spreadLook_19 rfl ?_
  refine j_iconst (v := 4) dX6_spreadLook_21 (by decide) ?_
  refine j_irem dX6_spreadLook_22 (by decide) ?_
  rw [show (4 : Int32) = nI 4 from rfl, pk_rem (by omega) (by omega) (by omega)]
  refine j_iast hk (inT hl (show 3 < 5 by omega) (by decide)) dX6_spreadLook_23 ?_
  rw [nI_clamp (by omega)]
  refine j_iload dX6_spreadLook_24 rfl ?_
  refine j_iconst (v := 4) dX6_spreadLook_26 (by decide) ?_
  refine j_idiv dX6_spreadLook_27 (by decide) ?_
  rw [show (4 : Int32) = nI 4 from rfl, pk_div (by omega) (by omega) (by omega)]
  refine j_istore (lv2 := [_, _, _, _, _, _]) dX6_spreadLook_28 (by decide) rfl rfl ?_
  refine j_iincm (lv2 := [_, _, _, _, _, _]) dX6_spreadLook_30 rfl (by decide) rfl rfl ?_
  rw [show nI 3 - 1 = nI 2 from rfl]
  refine j_goto (tgt := 10) dX6_spreadLook_33 (by decide) ?_
  refine j_iload dX6_spreadLook_10 rfl ?_
  refine j_iload_n dX6_spreadLook_12 rfl rfl ?_
  refine j_icmp_lt (tgt := 36) dX6_spreadLook_13 (by decide) (fun _ => ?_) (fun h13 => absurd (by decide) h13)
  refine j_vret rfl dX6_spreadLook_36 ?_
  exact hp
theorem c_add {h g x : Nat} (hX : XR mr) (hT : TT T) (h1 : h < 6) (h2 : g < 6) {c : Nat} (hc : mi (T + 2) 0 = nI c) (hp : post none (up (up (up mi (T + 3) (6 * h + g) (nI x)) (T + 3) (6 * g + h) (nI x)) (T + 2) 0 (nI (c + 1))) ml mr dom) : CT G 1 0 0 yX2_add cX2_add 4 none [.ref (T + 2), .int (nI h), .int (nI g), .int (nI x)] mi ml mr dom post := by
  have e1 : nI h * 6 + nI g = nI (6 * h + g) := by rw [show (6 : Int32) = nI 6 from rfl, pk_mul, nI_add, Nat.mul_comm]
  have e2 : nI g * 6 + nI h = nI (6 * g + h) := by rw [show (6 : Int32) = nI 6 from rfl, pk_mul, nI_add, Nat.mul_comm]
  refine enter 0 (by decide) rfl rfl (fun X => ?_)
  refine j_aload_n dX2_add_0 rfl rfl ?_
  refine gR2_15 (kT2 hT) dX2_add_1 (xT_lminutes hX hT) ?_
  refine j_iload_n dX2_add_4 rfl rfl ?_
  refine j_bipush (v := 6) dX2_add_5 (by decide) ?_
  refine j_imul dX2_add_7 ?_
  refine j_iload_n dX2_add_8 rfl rfl ?_
  refine j_iadd dX2_add_9 ?_
  refine j_iload_n dX2_add_10 rfl rfl ?_
  rw [e1]
  refine j_iast (kT3 hT) (inT (lT3 hT) (show 6 * h + g < 36 by omega) (by decide)) dX2_add_11 ?_
  rw [nI_clamp (by omega)]
  refine j_aload_n dX2_add_12 rfl rfl ?_
  refine gR2_15 (kT2 hT) dX2_add_13 (xT_lminutes hX hT) ?_
  refine j_iload_n dX2_add_16 rfl rfl ?_
  refine j_bipush (v := 6) dX2_add_17 (by decide) ?_
  refine j_imul dX2_add_19 ?_
  refine j_iload_n dX2_add_20 rfl rfl ?_
  refine j_iadd dX2_add_21 ?_
  refine j_iload_n dX2_add_22 rfl rfl ?_
  rw [e2]
  refine j_iast (kT3 hT) (inT (lT3 hT) (show 6 * g + h < 36 by omega) (by decide)) dX2_add_23 ?_
  rw [nI_clamp (by omega)]
  refine j_aload_n dX2_add_24 rfl rfl ?_
  refine j_dup dX2_add_25 rfl ?_
  refine gI2_9 (kT2 hT) dX2_add_26 ?_
  refine j_iconst (v := 1) dX2_add_29 (by decide) ?_
  refine j_iadd dX2_add_30 ?_
  rw [up_off _ _ (by omega), up_off _ _ (by omega), hc, nI_1]
  refine pI2_9 (kT2 hT) dX2_add_31 ?_
  refine j_vret rfl dX2_add_34 ?_
  exact hp
theorem c_lclear (hX : XR mr) (hT : TT T) (hp : post none (fillm (up mi (T + 2) 0 0) (T + 3) 0 36) ml mr dom) : CT G 2 0 0 yX2_clear cX2_clear 1 none [.ref (T + 2)] mi ml mr dom post := by
  refine enter 0 (by decide) rfl rfl (fun X => ?_)
  refine j_aload_n dX2_clear_0 rfl rfl ?_
  refine j_iconst (v := 0) dX2_clear_1 (by decide) ?_
  refine pI2_9 (kT2 hT) dX2_clear_2 ?_
  refine j_aload_n dX2_clear_5 rfl rfl ?_
  refine gR2_15 (kT2 hT) dX2_clear_6 (xT_lminutes hX hT) ?_
  refine j_iconst (v := 0) dX2_clear_9 (by decide) ?_
  refine cS2_25 (d1 := 1) dX2_clear_10 (by decide) (Nat.le_of_ble_eq_true rfl) ?_
  refine c_fill (kT3 hT) (by rw [lT3 hT]; decide) ?_
  rw [lT3 hT]
  refine j_vret rfl dX2_clear_13 ?_
  exact hp
theorem c_tclear (hX : XR mr) (hT : TT T) (hp : post none (fillm (up (up (up (up (up (up (up mi T 0 0) T 4 0) T 5 0) T 6 0) T 7 0) T 8 0) (T + 2) 0 0) (T + 3) 0 36) ml mr dom) : CT G 3 0 0 yX9_clear cX9_clear 1 none [.ref T] mi ml mr dom post := by
  refine enter 0 (by decide) rfl rfl (fun X => ?_)
  refine j_aload_n dX9_clear_0 rfl rfl ?_
  refine j_iconst (v := 0) dX9_clear_1 (by decide) ?_
  refine pI9_9 (kT0 hT) (by decide) dX9_clear_2 ?_
  refine j_aload_n dX9_clear_5 rfl rfl ?_
  refine j_iconst (v := 0) dX9_clear_6 (by decide) ?_
  refine pI9_25 (kT0 hT) dX9_clear_7 ?_
  refine j_aload_n dX9_clear_10 rfl rfl ?_
  refine j_iconst (v := 0) dX9_clear_11 (by decide) ?_
  refine pI9_28 (kT0 hT) dX9_clear_12 ?_
  refine j_aload_n dX9_clear_15 rfl rfl ?_
  refine j_iconst (v := 0) dX9_clear_16 (by decide) ?_
  refine pI9_31 (kT0 hT) dX9_clear_17 ?_
  refine j_aload_n dX9_clear_20 rfl rfl ?_
  refine j_iconst (v := 0) dX9_clear_21 (by decide) ?_
  refine pI9_34 (kT0 hT) dX9_clear_22 ?_
  refine j_aload_n dX9_clear_25 rfl rfl ?_
  refine j_iconst (v := 0) dX9_clear_26 (by decide) ?_
  refine pI9_37 (kT0 hT) dX9_clear_27 ?_
  refine j_aload_n dX9_clear_30 rfl rfl ?_
  refine gR9_47 (kT0 hT) dX9_clear_31 (xT_lanes hX hT) ?_
  refine cV9_82 (d1 := 2) (kT2 hT) dX9_clear_34 (by decide) (Nat.le_of_ble_eq_true rfl) ?_
  refine c_lclear hX hT ?_
  refine j_vret rfl dX9_clear_37 ?_
  exact hp
end C6d
