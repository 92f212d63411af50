/-! the class: Lanes -/
theorem ix6 (a b : Nat) : nI a * 6 + nI b = nI (6 * a + b) := by
  rw [show (6 : Int32) = nI 6 from rfl, pk_mul, nI_add, Nat.mul_comm]
theorem fl {σ : Type} {H : Nat → σ → Prop} {F : Nat → σ → σ} {I : σ → Prop} {n : Nat} {s0 : σ} (h0 : I s0) (hF : ∀ i s, I s → I (F i s)) (step : ∀ i, i < n → ∀ s, I s → H (i + 1) (F i s) → H i s) (ex : H n (fu F n s0)) : H 0 s0 := by
  have hI : ∀ i, I (fu F i s0) := by
    intro i
    induction i with
    | zero => exact h0
    | succ i ih => exact hF i _ ih
  exact fu_loop (H := H) (f := F) (n := n) (a0 := s0) (fun i hi ih => step i hi _ (hI i) ih) ex
theorem fu_inv {σ : Type} {F : Nat → σ → σ} {I : σ → Prop} (hF : ∀ i s, I s → I (F i s)) (n : Nat) {s : σ} (h : I s) : I (fu F n s) := by
  induction n with
  | zero => exact h
  | succ n ih => exact hF n _ ih
section C2
variable {G : GG} {post : PT} {mi : MI} {ml : ML} {mr : MR} {dom : List Nat} {T : Nat} {t : TW}
theorem c_join {a b v : Nat} (hX : XR mr) (hT : TT T) (ha : a < 6) (hb : b < 6) (hv : mi (T + 3) (6 * a + b) = nI v) (bv : v < 2 ^ 31) (hp : post (some (.int (nI (bN (decide (0 < v)))))) mi ml mr dom) : CT G 1 0 0 yX2_join cX2_join 3 (some .boolean) [.ref (T + 2), .int (nI a), .int (nI b)] mi ml mr dom post := by
  refine enter 0 (by decide) rfl rfl (fun X => ?_)
  refine j_aload_n dX2_join_0 rfl rfl ?_
  refine gR2_15 (kT2 hT) dX2_join_1 (xT_lminutes hX hT) ?_
  refine j_iload_n dX2_join_4 rfl rfl ?_
  refine j_bipush (v := 6) dX2_join_5 (by decide) ?_
  refine j_imul dX2_join_7 ?_
  refine j_iload_n dX2_join_8 rfl rfl ?_
  refine j_iadd dX2_join_9 ?_
  rw [ix6]
  refine j_iald (kT3 hT) (inT (lT3 hT) (show 6 * a + b < 36 by omega) (by omega)) dX2_join_10 ?_
  rw [nI_clamp (by omega), hv]
  refine j_if_le (tgt := 18) dX2_join_11 (by decide) (fun h11 => ?_) (fun h11 => ?_)
  · refine j_iconst (v := 0) dX2_join_18 (by decide) ?_
    refine j_zret rfl (by decide) dX2_join_19 ?_
    rw [show (0 : Int32) = nI 0 from rfl, nI_leI bv (by omega)] at h11
    first
      | (rw [decide_eq_false (by omega)] at hp; exact hp)
      | (rw [decide_eq_true (by omega)] at hp; exact hp)
  · refine j_iconst (v := 1) dX2_join_14 (by decide) ?_
    refine j_goto (tgt := 19) dX2_join_15 (by decide) ?_
    refine j_zret rfl (by decide) dX2_join_19 ?_
    rw [show (0 : Int32) = nI 0 from rfl, nI_leI bv (by omega)] at h11
    first
      | (rw [decide_eq_false (by omega)] at hp; exact hp)
      | (rw [decide_eq_true (by omega)] at hp; exact hp)
theorem c_between {a b : Nat} {v : Int32} (hX : XR mr) (hT : TT T) (ha : a < 6) (hb : b < 6) (hv : mi (T + 4) (6 * a + b) = v) (hp : post (some (.int v)) mi ml mr dom) : CT G 1 0 0 yX2_between cX2_between 3 (some .int) [.ref (T + 2), .int (nI a), .int (nI b)] mi ml mr dom post := by
  refine enter 0 (by decide) rfl rfl (fun X => ?_)
  refine j_aload_n dX2_between_0 rfl rfl ?_
  refine gR2_19 (kT2 hT) dX2_between_1 (xT_fewest hX hT) ?_
  refine j_iload_n dX2_between_4 rfl rfl ?_
  refine j_bipush (v := 6) dX2_between_5 (by decide) ?_
  refine j_imul dX2_between_7 ?_
  refine j_iload_n dX2_between_8 rfl rfl ?_
  refine j_iadd dX2_between_9 ?_
  rw [ix6]
  refine j_iald (kT4 hT) (inT (lT4 hT) (show 6 * a + b < 36 by omega) (by omega)) dX2_between_10 ?_
  rw [nI_clamp (by omega), hv]
  refine j_iret rfl dX2_between_11 ?_
  exact hp
/-- the class's ways, as it works them out -/
def upN (f : Nat → Nat) (k x : Nat) : Nat → Nat := fun j => if j = k then x else f j
def iniC (mn : Nat → Nat) (k : Nat) : Nat := if k / 6 = k % 6 then 0 else if 0 < mn k then mn k else 1000000
def stC (o h g : Nat) (f : Nat → Nat) : Nat → Nat := upN f (6 * h + g) (min (f (6 * h + g)) (f (6 * h + o) + f (6 * o + g)))
def fwC (mn : Nat → Nat) : Nat → Nat := fu (fun o f => fu (fun h f => fu (fun g f => stC o h g f) 6 f) 6 f) 6 (iniC mn)
def le6 (f : Nat → Nat) : Prop := ∀ i, f i ≤ 1000000
theorem stC_le {o h g : Nat} {f : Nat → Nat} (hf : le6 f) : le6 (stC o h g f) := by
  intro i
  unfold stC upN
  split
  · have := hf (6 * h + g); omega
  · exact hf i
/-- memories that differ in a row alone -/
def off1 (a : Nat) (m mi : MI) : Prop := ∀ n, n ≠ a → m n = mi n
theorem off1.up {a j : Nat} {x : Int32} {m mi : MI} (h : off1 a m mi) : off1 a (up m a j x) mi := fun n hn => (up_off m x hn).trans (h n hn)
theorem c_measure {mn : Nat → Nat} (hX : XR mr) (hT : TT T) (hmn : ∀ i, i < 36 → mi (T + 3) i = nI (mn i)) (hm60 : ∀ i, mn i ≤ 60) (hp : ∀ m, off1 (T + 4) m mi → (∀ i, i < 36 → m (T + 4) i = nI (fwC mn i)) → post none m ml mr dom) : CT G 2 0 0 yX2_measure cX2_measure 5 none [.ref (T + 2)] mi ml mr dom post := by
  refine enter 4 (by decide) rfl rfl (fun X => ?_)
  refine j_iconst (v := 0) dX2_measure_0 (by decide) ?_
  refine j_istore_n (lv2 := [_, _, _, _, _]) dX2_measure_1 rfl (by decide) rfl rfl ?_
  skip
  have hini : le6 (iniC mn) := by
    intro i
    have := hm60 i
    unfold iniC
    split
    · omega
    · split <;> omega
  have hfw : ∀ z2 z3 z4 : Option Value, ∀ m : MI, off1 (T + 4) m mi → (∀ i, i < 36 → m (T + 4) i = nI (iniC mn i)) → J cX2_measure 5 yX2_measure.cls yX2_measure.name none 2 G X post 0 0 m ml mr dom 77 [some (.ref (T + 2)), some (.int (nI 0)), z2, z3, z4] [] := by
    refine fl (n := 6) (s0 := iniC mn) (I := le6) (F := fun o f => fu (fun h f => fu (fun g f => stC o h g f) 6 f) 6 f) (H := fun o f => ∀ z2 z3 z4 : Option Value, ∀ m : MI, off1 (T + 4) m mi → (∀ i, i < 36 → m (T + 4) i = nI (f i)) → J cX2_measure 5 yX2_measure.cls yX2_measure.name none 2 G X post 0 0 m ml mr dom 77 [some (.ref (T + 2)), some (.int (nI o)), z2, z3, z4] []) hini (fun o f h => fu_inv (fun h f hf => fu_inv (fun g f hf => stC_le hf) 6 hf) 6 h) (fun o ho6 f hle ih0 z2 z3 z4 m hm hf => ?_) (fun z2 z3 z4 m hm hf => ?_)
    · have key85 : ∀ z3 z4 : Option Value, ∀ m : MI, off1 (T + 4) m mi → (∀ i, i < 36 → m (T + 4) i = nI (f i)) → J cX2_measure 5 yX2_measure.cls yX2_measure.name none 2 G X post 0 0 m ml mr dom 85 [some (.ref (T + 2)), some (.int (nI o)), some (.int (nI 0)), z3, z4] [] := by
        refine fl (n := 6) (s0 := f) (I := le6) (F := fun h f => fu (fun g f => stC o h g f) 6 f) (H := fun h f => ∀ z3 z4 : Option Value, ∀ m : MI, off1 (T + 4) m mi → (∀ i, i < 36 → m (T + 4) i = nI (f i)) → J cX2_measure 5 yX2_measure.cls yX2_measure.name none 2 G X post 0 0 m ml mr dom 85 [some (.ref (T + 2)), some (.int (nI o)), some (.int (nI h)), z3, z4] []) hle (fun h f hf => fu_inv (fun g f hf => stC_le hf) 6 hf) (fun h hh6 f hle ih1 z3 z4 m hm hf => ?_) (fun z3 z4 m hm hf => ?_)
        · have key93 : ∀ z4 : Option Value, ∀ m : MI, off1 (T + 4) m mi → (∀ i, i < 36 → m (T + 4) i = nI (f i)) → J cX2_measure 5 yX2_measure.cls yX2_measure.name none 2 G X post 0 0 m ml mr dom 93 [some (.ref (T + 2)), some (.int (nI o)), some (.int (nI h)), some (.int (nI 0)), z4] [] := by
            refine fl (n := 6) (s0 := f) (I := le6) (F := fun g f => stC o h g f) (H := fun g f => ∀ z4 : Option Value, ∀ m : MI, off1 (T + 4) m mi → (∀ i, i < 36 → m (T + 4) i = nI (f i)) → J cX2_measure 5 yX2_measure.cls yX2_measure.name none 2 G X post 0 0 m ml mr dom 93 [some (.ref (T + 2)), some (.int (nI o)), some (.int (nI h)), some (.int (nI g)), z4] []) hle (fun g f hf => stC_le hf) (fun g hg6 f hle ih z4 m hm hf => ?_) (fun z4 m hm hf => ?_)
            · skip
              refine j_iload_n dX2_measure_93 rfl rfl ?_
              refine j_bipush (v := 6) dX2_measure_94 (by decide) ?_
              refine j_icmp_ge (tgt := 142) dX2_measure_96 (by decide) (fun h96 => absurd h96 (nI_ge (a := g) (b := 6) hg6 (by decide))) (fun _ => ?_)
              refine j_aload_n dX2_measure_99 rfl rfl ?_
              refine j_iload_n dX2_measure_100 rfl rfl ?_
              refine j_iload_n dX2_measure_101 rfl rfl ?_
              refine cV2_36 (d1 := 1) (kT2 hT) dX2_measure_102 (by decide) (Nat.le_of_ble_eq_true rfl) ?_
              refine c_between hX hT hh6 ho6 (hf _ (by omega)) ?_
              refine j_aload_n dX2_measure_105 rfl rfl ?_
              refine j_iload_n dX2_measure_106 rfl rfl ?_
              refine j_iload_n dX2_measure_107 rfl rfl ?_
              refine cV2_36 (d1 := 1) (kT2 hT) dX2_measure_108 (by decide) (Nat.le_of_ble_eq_true rfl) ?_
              refine c_between hX hT ho6 hg6 (hf _ (by omega)) ?_
              refine j_iadd dX2_measure_111 ?_
              rw [nI_add]
              refine j_istore (lv2 := [_, _, _, _, _]) dX2_measure_112 (by decide) rfl rfl ?_
              refine j_aload_n dX2_measure_114 rfl rfl ?_
              refine gR2_19 (kT2 hT) dX2_measure_115 (xT_fewest hX hT) ?_
              refine j_iload_n dX2_measure_118 rfl rfl ?_
              refine j_bipush (v := 6) dX2_measure_119 (by decide) ?_
              refine j_imul dX2_measure_121 ?_
              refine j_iload_n dX2_measure_122 rfl rfl ?_
              refine j_iadd dX2_measure_123 ?_
              rw [ix6]
              refine j_aload_n dX2_measure_124 rfl rfl ?_
              refine j_iload_n dX2_measure_125 rfl rfl ?_
              refine j_iload_n dX2_measure_126 rfl rfl ?_
              refine cV2_36 (d1 := 1) (kT2 hT) dX2_measure_127 (by decide) (Nat.le_of_ble_eq_true rfl) ?_
              refine c_between hX hT hh6 hg6 (hf _ (by omega)) ?_
              refine j_iload dX2_measure_130 rfl ?_
              refine j_mmin2_40 dX2_measure_132 (by decide) (Nat.le_of_ble_eq_true rfl) ?_
              rw [imin_nI (by have := hle (6 * h + g); omega) (by have := hle (6 * h + o); have := hle (6 * o + g); omega)]
              refine j_iast (kT4 hT) (inT (lT4 hT) (show 6 * h + g < 36 by omega) (by omega)) dX2_measure_135 ?_
              refine j_iinc1 (lv2 := [_, _, _, _, _]) dX2_measure_136 rfl (by decide) rfl rfl ?_
              refine j_goto (tgt := 93) dX2_measure_139 (by decide) ?_
              rw [nI_1, nI_clamp (by omega)]
              refine ih _ _ hm.up (fun k hk => ?_)
              show _ = nI (upN f (6 * h + g) _ k)
              unfold upN
              by_cases hk2 : k = 6 * h + g
              · subst hk2; rw [up_at, if_pos rfl]
              · rw [up_ne _ _ hk2, if_neg hk2]; exact hf k hk
            · skip
              refine j_iload_n dX2_measure_93 rfl rfl ?_
              refine j_bipush (v := 6) dX2_measure_94 (by decide) ?_
              refine j_icmp_ge (tgt := 142) dX2_measure_96 (by decide) (fun _ => ?_) (fun h96 => absurd (nI_le (a := 6) (b := 6) (Nat.le_refl 6) (by decide)) h96)
              refine j_iinc1 (lv2 := [_, _, _, _, _]) dX2_measure_142 rfl (by decide) rfl rfl ?_
              refine j_goto (tgt := 85) dX2_measure_145 (by decide) ?_
              rw [nI_1]
              exact ih1 _ _ _ hm hf
          refine j_iload_n dX2_measure_85 rfl rfl ?_
          refine j_bipush (v := 6) dX2_measure_86 (by decide) ?_
          refine j_icmp_ge (tgt := 148) dX2_measure_88 (by decide) (fun h88 => absurd h88 (nI_ge (a := h) (b := 6) hh6 (by decide))) (fun _ => ?_)
          refine j_iconst (v := 0) dX2_measure_91 (by decide) ?_
          refine j_istore_n (lv2 := [_, _, _, _, _]) dX2_measure_92 rfl (by decide) rfl rfl ?_
          exact key93 z4 m hm hf
        · skip
          refine j_iload_n dX2_measure_85 rfl rfl ?_
          refine j_bipush (v := 6) dX2_measure_86 (by decide) ?_
          refine j_icmp_ge (tgt := 148) dX2_measure_88 (by decide) (fun _ => ?_) (fun h88 => absurd (nI_le (a := 6) (b := 6) (Nat.le_refl 6) (by decide)) h88)
          refine j_iinc1 (lv2 := [_, _, _, _, _]) dX2_measure_148 rfl (by decide) rfl rfl ?_
          refine j_goto (tgt := 77) dX2_measure_151 (by decide) ?_
          rw [nI_1]
          exact ih0 _ _ _ _ hm hf
      refine j_iload_n dX2_measure_77 rfl rfl ?_
      refine j_bipush (v := 6) dX2_measure_78 (by decide) ?_
      refine j_icmp_ge (tgt := 154) dX2_measure_80 (by decide) (fun h80 => absurd h80 (nI_ge (a := o) (b := 6) ho6 (by decide))) (fun _ => ?_)
      refine j_iconst (v := 0) dX2_measure_83 (by decide) ?_
      refine j_istore_n (lv2 := [_, _, _, _, _]) dX2_measure_84 rfl (by decide) rfl rfl ?_
      exact key85 z3 z4 m hm hf
    · skip
      refine j_iload_n dX2_measure_77 rfl rfl ?_
      refine j_bipush (v := 6) dX2_measure_78 (by decide) ?_
      refine j_icmp_ge (tgt := 154) dX2_measure_80 (by decide) (fun _ => ?_) (fun h80 => absurd (nI_le (a := 6) (b := 6) (Nat.le_refl 6) (by decide)) h80)
      refine j_vret rfl dX2_measure_154 ?_
      exact hp m hm hf
  refine lq (n := 6) (H := fun h => ∀ z2 z3 : Option Value, ∀ m : MI, off1 (T + 4) m mi → (∀ k, k < 6 * h → m (T + 4) k = nI (iniC mn k)) → J cX2_measure 5 yX2_measure.cls yX2_measure.name none 2 G X post 0 0 m ml mr dom 2 [some (.ref (T + 2)), some (.int (nI h)), z2, z3, none] []) (fun z2 z3 m hm hI => ?_) (fun h hh6 ih0 z2 z3 m hm hI => ?_) none none mi (fun _ _ => rfl) (fun k hk => absurd hk (by omega))
  · skip
    refine j_iload_n dX2_measure_2 rfl rfl ?_
    refine j_bipush (v := 6) dX2_measure_3 (by decide) ?_
    refine j_icmp_ge (tgt := 75) dX2_measure_5 (by decide) (fun _ => ?_) (fun h5 => absurd (nI_le (a := 6) (b := 6) (Nat.le_refl 6) (by decide)) h5)
    refine j_iconst (v := 0) dX2_measure_75 (by decide) ?_
    refine j_istore_n (lv2 := [_, _, _, _, _]) dX2_measure_76 rfl (by decide) rfl rfl ?_
    exact hfw _ _ _ m hm (fun k hk => hI k (by omega))
  · have key : ∀ z3 : Option Value, ∀ m : MI, off1 (T + 4) m mi → (∀ k, k < 6 * h + 0 → m (T + 4) k = nI (iniC mn k)) → J cX2_measure 5 yX2_measure.cls yX2_measure.name none 2 G X post 0 0 m ml mr dom 10 [some (.ref (T + 2)), some (.int (nI h)), some (.int (nI 0)), z3, none] [] := by
      refine lq (n := 6) (H := fun g => ∀ z3 : Option Value, ∀ m : MI, off1 (T + 4) m mi → (∀ k, k < 6 * h + g → m (T + 4) k = nI (iniC mn k)) → J cX2_measure 5 yX2_measure.cls yX2_measure.name none 2 G X post 0 0 m ml mr dom 10 [some (.ref (T + 2)), some (.int (nI h)), some (.int (nI g)), z3, none] []) (fun z3 m hm hI => ?_) (fun g hg6 ih z3 m hm hI => ?_)
      · skip
        refine j_iload_n dX2_measure_10 rfl rfl ?_
        refine j_bipush (v := 6) dX2_measure_11 (by decide) ?_
        refine j_icmp_ge (tgt := 69) dX2_measure_13 (by decide) (fun _ => ?_) (fun h13 => absurd (nI_le (a := 6) (b := 6) (Nat.le_refl 6) (by decide)) h13)
        refine j_iinc1 (lv2 := [_, _, _, _, _]) dX2_measure_69 rfl (by decide) rfl rfl ?_
        refine j_goto (tgt := 2) dX2_measure_72 (by decide) ?_
        rw [nI_1]
        exact ih0 _ _ _ hm (fun k hk => hI k (by omega))
      · skip
        refine j_iload_n dX2_measure_10 rfl rfl ?_
        refine j_bipush (v := 6) dX2_measure_11 (by decide) ?_
        refine j_icmp_ge (tgt := 69) dX2_measure_13 (by decide) (fun h13 => absurd h13 (nI_ge (a := g) (b := 6) hg6 (by decide))) (fun _ => ?_)
        refine j_aload_n dX2_measure_16 rfl rfl ?_
        refine j_iload_n dX2_measure_17 rfl rfl ?_
        refine j_iload_n dX2_measure_18 rfl rfl ?_
        refine cV2_31 (d1 := 1) (kT2 hT) dX2_measure_19 (by decide) (Nat.le_of_ble_eq_true rfl) ?_
        refine c_join hX hT hh6 hg6 (v := mn (6 * h + g)) (by rw [hm (T + 3) (by omega)]; exact hmn _ (by omega)) (by have := hm60 (6 * h + g); omega) ?_
        refine j_if_eq (tgt := 39) dX2_measure_22 (by decide) (fun h22 => ?_) (fun h22 => ?_)
        · refine j_ldc wd772 dX2_measure_39 ?_
          refine j_istore_n (lv2 := [_, _, _, _, _]) dX2_measure_41 rfl (by decide) rfl rfl ?_
          refine j_aload_n dX2_measure_42 rfl rfl ?_
          refine gR2_19 (kT2 hT) dX2_measure_43 (xT_fewest hX hT) ?_
          refine j_iload_n dX2_measure_46 rfl rfl ?_
          refine j_bipush (v := 6) dX2_measure_47 (by decide) ?_
          refine j_imul dX2_measure_49 ?_
          refine j_iload_n dX2_measure_50 rfl rfl ?_
          refine j_iadd dX2_measure_51 ?_
          rw [ix6]
          refine j_iload_n dX2_measure_52 rfl rfl ?_
          refine j_iload_n dX2_measure_53 rfl rfl ?_
          refine j_icmp_ne (tgt := 61) dX2_measure_54 (by decide) (fun h54 => ?_) (fun h54 => ?_)
          · refine j_iload_n dX2_measure_61 rfl rfl ?_
            refine j_iast (kT4 hT) (inT (lT4 hT) (show 6 * h + g < 36 by omega) (by omega)) dX2_measure_62 ?_
            refine j_iinc1 (lv2 := [_, _, _, _, _]) dX2_measure_63 rfl (by decide) rfl rfl ?_
            refine j_goto (tgt := 10) dX2_measure_66 (by decide) ?_
            rw [nI_1, nI_clamp (by omega)]
            refine ih _ _ hm.up (fun k hk => ?_)
            by_cases hk2 : k = 6 * h + g
            · subst hk2
              rw [up_at]
              rw [nI_eq (by omega) (by omega)] at h54
              rw [bN_eq0] at h22
              have e1 : (6 * h + g) / 6 = h := by omega
              have e2 : (6 * h + g) % 6 = g := by omega
              simp only [iniC, e1, e2]
              first
                | (rw [if_pos h54]; rfl)
                | (rw [if_neg h54, if_pos (by simp at h22; omega)])
                | (rw [if_neg h54, if_neg (by simp at h22; omega)]; rfl)
            · rw [up_ne _ _ hk2]; exact hI k (by omega)
          · refine j_iconst (v := 0) dX2_measure_57 (by decide) ?_
            refine j_goto (tgt := 62) dX2_measure_58 (by decide) ?_
            refine j_iast (kT4 hT) (inT (lT4 hT) (show 6 * h + g < 36 by omega) (by omega)) dX2_measure_62 ?_
            refine j_iinc1 (lv2 := [_, _, _, _, _]) dX2_measure_63 rfl (by decide) rfl rfl ?_
            refine j_goto (tgt := 10) dX2_measure_66 (by decide) ?_
            rw [nI_1, nI_clamp (by omega)]
            refine ih _ _ hm.up (fun k hk => ?_)
            by_cases hk2 : k = 6 * h + g
            · subst hk2
              rw [up_at]
              rw [nI_eq (by omega) (by omega)] at h54
              rw [bN_eq0] at h22
              have e1 : (6 * h + g) / 6 = h := by omega
              have e2 : (6 * h + g) % 6 = g := by omega
              simp only [iniC, e1, e2]
              first
                | (rw [if_pos h54]; rfl)
                | (rw [if_neg h54, if_pos (by simp at h22; omega)])
                | (rw [if_neg h54, if_neg (by simp at h22; omega)]; rfl)
            · rw [up_ne _ _ hk2]; exact hI k (by omega)
        · refine j_aload_n dX2_measure_25 rfl rfl ?_
          refine gR2_15 (kT2 hT) dX2_measure_26 (xT_lminutes hX hT) ?_
          refine j_iload_n dX2_measure_29 rfl rfl ?_
          refine j_bipush (v := 6) dX2_measure_30 (by decide) ?_
          refine j_imul dX2_measure_32 ?_
          refine j_iload_n dX2_measure_33 rfl rfl ?_
          refine j_iadd dX2_measure_34 ?_
          rw [ix6]
          refine j_iald (kT3 hT) (inT (lT3 hT) (show 6 * h + g < 36 by omega) (by omega)) dX2_measure_35 ?_
          rw [nI_clamp (by omega), hm (T + 3) (by omega), hmn _ (show 6 * h + g < 36 by omega)]
          refine j_goto (tgt := 41) dX2_measure_36 (by decide) ?_
          refine j_istore_n (lv2 := [_, _, _, _, _]) dX2_measure_41 rfl (by decide) rfl rfl ?_
          refine j_aload_n dX2_measure_42 rfl rfl ?_
          refine gR2_19 (kT2 hT) dX2_measure_43 (xT_fewest hX hT) ?_
          refine j_iload_n dX2_measure_46 rfl rfl ?_
          refine j_bipush (v := 6) dX2_measure_47 (by decide) ?_
          refine j_imul dX2_measure_49 ?_
          refine j_iload_n dX2_measure_50 rfl rfl ?_
          refine j_iadd dX2_measure_51 ?_
          rw [ix6]
          refine j_iload_n dX2_measure_52 rfl rfl ?_
          refine j_iload_n dX2_measure_53 rfl rfl ?_
          refine j_icmp_ne (tgt := 61) dX2_measure_54 (by decide) (fun h54 => ?_) (fun h54 => ?_)
          · refine j_iload_n dX2_measure_61 rfl rfl ?_
            refine j_iast (kT4 hT) (inT (lT4 hT) (show 6 * h + g < 36 by omega) (by omega)) dX2_measure_62 ?_
            refine j_iinc1 (lv2 := [_, _, _, _, _]) dX2_measure_63 rfl (by decide) rfl rfl ?_
            refine j_goto (tgt := 10) dX2_measure_66 (by decide) ?_
            rw [nI_1, nI_clamp (by omega)]
            refine ih _ _ hm.up (fun k hk => ?_)
            by_cases hk2 : k = 6 * h + g
            · subst hk2
              rw [up_at]
              rw [nI_eq (by omega) (by omega)] at h54
              rw [bN_eq0] at h22
              have e1 : (6 * h + g) / 6 = h := by omega
              have e2 : (6 * h + g) % 6 = g := by omega
              simp only [iniC, e1, e2]
              first
                | (rw [if_pos h54]; rfl)
                | (rw [if_neg h54, if_pos (by simp at h22; omega)])
                | (rw [if_neg h54, if_neg (by simp at h22; omega)]; rfl)
            · rw [up_ne _ _ hk2]; exact hI k (by omega)
          · refine j_iconst (v := 0) dX2_measure_57 (by decide) ?_
            refine j_goto (tgt := 62) dX2_measure_58 (by decide) ?_
            refine j_iast (kT4 hT) (inT (lT4 hT) (show 6 * h + g < 36 by omega) (by omega)) dX2_measure_62 ?_
            refine j_iinc1 (lv2 := [_, _, _, _, _]) dX2_measure_63 rfl (by decide) rfl rfl ?_
            refine j_goto (tgt := 10) dX2_measure_66 (by decide) ?_
            rw [nI_1, nI_clamp (by omega)]
            refine ih _ _ hm.up (fun k hk => ?_)
            by_cases hk2 : k = 6 * h + g
            · subst hk2
              rw [up_at]
              rw [nI_eq (by omega) (by omega)] at h54
              rw [bN_eq0] at h22
              have e1 : (6 * h + g) / 6 = h := by omega
              have e2 : (6 * h + g) % 6 = g := by omega
              simp only [iniC, e1, e2]
              first
                | (rw [if_pos h54]; rfl)
                | (rw [if_neg h54, if_pos (by simp at h22; omega)])
                | (rw [if_neg h54, if_neg (by simp at h22; omega)]; rfl)
            · rw [up_ne _ _ hk2]; exact hI k (by omega)
    refine j_iload_n dX2_measure_2 rfl rfl ?_
    refine j_bipush (v := 6) dX2_measure_3 (by decide) ?_
    refine j_icmp_ge (tgt := 75) dX2_measure_5 (by decide) (fun h5 => absurd h5 (nI_ge (a := h) (b := 6) hh6 (by decide))) (fun _ => ?_)
    refine j_iconst (v := 0) dX2_measure_8 (by decide) ?_
    refine j_istore_n (lv2 := [_, _, _, _, _]) dX2_measure_9 rfl (by decide) rfl rfl ?_
    exact key z3 m hm (fun k hk => hI k (by omega))
/-- the house behind one on the way: the first neighbour from which it is as far as it must be; 6 if there is none -/
def nxW (mn fw : Nat → Nat) (a g : Nat) (b : Nat) : Bool := decide (0 < mn (6 * a + b)) && decide (mn (6 * a + b) + fw (6 * b + g) = fw (6 * a + g))
theorem c_next {mn fw : Nat → Nat} {a g : Nat} (hX : XR mr) (hT : TT T) (hmn : ∀ i, i < 36 → mi (T + 3) i = nI (mn i)) (hm60 : ∀ i, mn i ≤ 60) (hf : ∀ i, i < 36 → mi (T + 4) i = nI (fw i)) (hle : ∀ i, fw i ≤ 1000000) (ha6 : a < 6) (hg6 : g < 6) (hp1 : ∀ b, b < 6 → nxW mn fw a g b = true → (∀ j, j < b → nxW mn fw a g j = false) → post (some (.int (nI b))) mi ml mr dom) (hp2 : (∀ j, j < 6 → nxW mn fw a g j = false) → post (some (.int (-1))) mi ml mr dom) : CT G 2 0 0 yX2_next cX2_next 4 (some .int) [.ref (T + 2), .int (nI a), .int (nI g)] mi ml mr dom post := by
  refine enter 1 (by decide) rfl rfl (fun X => ?_)
  refine j_iconst (v := 0) dX2_next_0 (by decide) ?_
  refine j_istore_n (lv2 := [_, _, _, _]) dX2_next_1 rfl (by decide) rfl rfl ?_
  skip
  refine lp (n := 6) (Q := fun b => ∀ j, j < b → nxW mn fw a g j = false) (H := fun b => J cX2_next 4 yX2_next.cls yX2_next.name (some .int) 2 G X post 0 0 mi ml mr dom 2 [some (.ref (T + 2)), some (.int (nI a)), some (.int (nI g)), some (.int (nI b))] []) (fun hq => ?_) (fun b hb6 hq ih => ?_) (fun j hj => absurd hj (by omega))
  · skip
    refine j_iload_n dX2_next_2 rfl rfl ?_
    refine j_bipush (v := 6) dX2_next_3 (by decide) ?_
    refine j_icmp_ge (tgt := 52) dX2_next_5 (by decide) (fun _ => ?_) (fun h5 => absurd (nI_le (a := 6) (b := 6) (Nat.le_refl 6) (by decide)) h5)
    refine j_iconst (v := -1) dX2_next_52 (by decide) ?_
    refine j_iret rfl dX2_next_53 ?_
    exact hp2 hq
  · skip
    refine j_iload_n dX2_next_2 rfl rfl ?_
    refine j_bipush (v := 6) dX2_next_3 (by decide) ?_
    refine j_icmp_ge (tgt := 52) dX2_next_5 (by decide) (fun h5 => absurd h5 (nI_ge (a := b) (b := 6) hb6 (by decide))) (fun _ => ?_)
    refine j_aload_n dX2_next_8 rfl rfl ?_
    refine j_iload_n dX2_next_9 rfl rfl ?_
    refine j_iload_n dX2_next_10 rfl rfl ?_
    refine cV2_31 (d1 := 1) (kT2 hT) dX2_next_11 (by decide) (Nat.le_of_ble_eq_true rfl) ?_
    refine c_join hX hT ha6 hb6 (hmn _ (by omega)) (by have := hm60 (6 * a + b); omega) ?_
    refine j_if_eq (tgt := 46) dX2_next_14 (by decide) (fun h14 => ?_) (fun h14 => ?_)
    · refine j_iinc1 (lv2 := [_, _, _, _]) dX2_next_46 rfl (by decide) rfl rfl ?_
      refine j_goto (tgt := 2) dX2_next_49 (by decide) ?_
      rw [nI_1]
      refine ih (fun j hj => ?_)
      by_cases hjb : j = b
      · subst hjb
        rw [bN_eq0] at h14
        unfold nxW
        first
          | (rw [h14, Bool.false_and])
          | (rw [nI_eq (by have := hm60 (6 * a + j); have := hle (6 * j + g); omega) (by have := hle (6 * a + g); omega)] at h41
             rw [decide_eq_false h41, Bool.and_false])
      · exact hq j (by omega)
    · refine j_aload_n dX2_next_17 rfl rfl ?_
      refine gR2_15 (kT2 hT) dX2_next_18 (xT_lminutes hX hT) ?_
      refine j_iload_n dX2_next_21 rfl rfl ?_
      refine j_bipush (v := 6) dX2_next_22 (by decide) ?_
      refine j_imul dX2_next_24 ?_
      refine j_iload_n dX2_next_25 rfl rfl ?_
      refine j_iadd dX2_next_26 ?_
      rw [ix6]
      refine j_iald (kT3 hT) (inT (lT3 hT) (show 6 * a + b < 36 by omega) (by omega)) dX2_next_27 ?_
      rw [nI_clamp (by omega), hmn _ (show 6 * a + b < 36 by omega)]
      refine j_aload_n dX2_next_28 rfl rfl ?_
      refine j_iload_n dX2_next_29 rfl rfl ?_
      refine j_iload_n dX2_next_30 rfl rfl ?_
      refine cV2_36 (d1 := 1) (kT2 hT) dX2_next_31 (by decide) (Nat.le_of_ble_eq_true rfl) ?_
      refine c_between hX hT hb6 hg6 (hf _ (by omega)) ?_
      refine j_iadd dX2_next_34 ?_
      rw [nI_add]
      refine j_aload_n dX2_next_35 rfl rfl ?_
      refine j_iload_n dX2_next_36 rfl rfl ?_
      refine j_iload_n dX2_next_37 rfl rfl ?_
      refine cV2_36 (d1 := 1) (kT2 hT) dX2_next_38 (by decide) (Nat.le_of_ble_eq_true rfl) ?_
      refine c_between hX hT ha6 hg6 (hf _ (by omega)) ?_
      refine j_icmp_ne (tgt := 46) dX2_next_41 (by decide) (fun h41 => ?_) (fun h41 => ?_)
      · refine j_iinc1 (lv2 := [_, _, _, _]) dX2_next_46 rfl (by decide) rfl rfl ?_
        refine j_goto (tgt := 2) dX2_next_49 (by decide) ?_
        rw [nI_1]
        refine ih (fun j hj => ?_)
        by_cases hjb : j = b
        · subst hjb
          rw [bN_eq0] at h14
          unfold nxW
          first
            | (rw [h14, Bool.false_and])
            | (rw [nI_eq (by have := hm60 (6 * a + j); have := hle (6 * j + g); omega) (by have := hle (6 * a + g); omega)] at h41
               rw [decide_eq_false h41, Bool.and_false])
        · exact hq j (by omega)
      · refine j_iload_n dX2_next_44 rfl rfl ?_
        refine j_iret rfl dX2_next_45 ?_
        rw [bN_eq0, Bool.not_eq_false] at h14
        rw [nI_eq (by have := hm60 (6 * a + b); have := hle (6 * b + g); omega) (by have := hle (6 * a + g); omega)] at h41
        exact hp1 b hb6 (by unfold nxW; rw [h14, decide_eq_true h41]; rfl) hq
end C2
