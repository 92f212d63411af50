/-! the reference: the soonest ways -/
def iniM (mn : Nat → Nat) (k : Nat) : Nat := if k / 6 = k % 6 then 0 else if 0 < mn k then mn k else 99999
def stM (o h g : Nat) (f : Nat → Nat) : Nat → Nat := if f (6 * h + o) + f (6 * o + g) < f (6 * h + g) then upN f (6 * h + g) (f (6 * h + o) + f (6 * o + g)) else f
def fwM (mn : Nat → Nat) (H : Nat) : Nat → Nat := fu (fun o f => fu (fun h f => fu (fun g f => stM o h g f) H f) H f) H (iniM mn)
def le9 (f : Nat → Nat) : Prop := ∀ i, f i ≤ 99999
theorem stM_le {o h g : Nat} {f : Nat → Nat} (hf : le9 f) : le9 (stM o h g f) := by
  intro i; unfold stM; split
  · unfold upN; split
    · have := hf (6 * h + g); omega
    · exact hf i
  · exact hf i
theorem fu_le9 {F : Nat → (Nat → Nat) → Nat → Nat} (hF : ∀ i f, le9 f → le9 (F i f)) : ∀ n f, le9 f → le9 (fu F n f)
  | 0, f, h => h
  | n + 1, f, h => hF n _ (fu_le9 hF n f h)
theorem iniM_le {mn : Nat → Nat} (h : ∀ i, mn i ≤ 60) : le9 (iniM mn) := fun i => by
  unfold iniM; split
  · omega
  · split
    · have := h i; omega
    · omega
theorem fwM_le {mn : Nat → Nat} (h : ∀ i, mn i ≤ 60) (H : Nat) : le9 (fwM mn H) := fu_le9 (fun o f hf => fu_le9 (fun a f hf => fu_le9 (fun g f hf => stM_le hf) _ _ hf) _ _ hf) _ _ (iniM_le h)
section M12j
variable {G : GG} {post : PT} {mi : MI} {ml : ML} {mr : MR} {dom : List Nat} {M : Nat} {t : TW}
theorem m_joins (hM : MM M) (hY : XT mr M) (hg : GB t) (hW : WT t) (hR : RM mi M t) (hp : ∀ m : MI, off1 (M + 3) m mi → (∀ i, i < 36 → m (M + 3) i = nI (fwM (t 2) (t 0 3) i)) → post none m ml mr dom) : CT G 1 0 0 yX12_joins cX12_joins 5 none [.ref M] mi ml mr dom post := by
  have w := hW.1
  have hge := hM.ge
  refine enter 4 (by decide) rfl rfl (fun X => ?_)
  refine j_iconst (v := nI 0) dX12_joins_0 (by decide) ?_
  refine j_istore_n (lv2 := [_, _, _, _, _]) dX12_joins_1 rfl (by decide) rfl rfl ?_
  skip
  have keyo : ∀ m : MI, off1 (M + 3) m mi → (∀ k, k < 36 → m (M + 3) k = nI (iniM (t 2) k)) → ∀ z2 z3 z4 : Option Value, J cX12_joins 5 yX12_joins.cls yX12_joins.name none 1 G X post 0 0 m ml mr dom 57 [some (.ref M), some (.int (nI 0)), z2, z3, z4] [] := by
    refine fl (σ := Nat → Nat) (n := t 0 3) (s0 := iniM (t 2)) (I := le9) (F := fun o f => fu (fun h f => fu (fun g f => stM o h g f) (t 0 3) f) (t 0 3) f) (H := fun o f => ∀ m : MI, off1 (M + 3) m mi → (∀ k, k < 36 → m (M + 3) k = nI (f k)) → ∀ z2 z3 z4 : Option Value, J cX12_joins 5 yX12_joins.cls yX12_joins.name none 1 G X post 0 0 m ml mr dom 57 [some (.ref M), some (.int (nI o)), z2, z3, z4] []) (iniM_le hW.2.2.1) (fun o f hf => fu_le9 (fun h f hf => fu_le9 (fun g f hf => stM_le hf) _ _ hf) _ _ hf) (fun o hoo f hle iho m hm hf z2 z3 z4 => ?_) (fun m hm hf z2 z3 z4 => ?_)
    · skip
      refine j_iload_n dX12_joins_57 rfl rfl ?_
      refine j_aload_n dX12_joins_58 rfl rfl ?_
      refine gI12_100 (kM0 hM) dX12_joins_59 ?_
      rw [hm M (by omega), hR.1 3 (by decide)]
      refine j_icmp_ge (tgt := 157) dX12_joins_62 (by decide) (fun h62 => by exfalso; rw [nI_leI (by omega) (by omega)] at h62; omega) (fun h62 => ?_)
      refine j_iconst (v := nI 0) dX12_joins_65 (by decide) ?_
      refine j_istore_n (lv2 := [_, _, _, _, _]) dX12_joins_66 rfl (by decide) rfl rfl ?_
      refine fl (σ := Nat → Nat) (n := t 0 3) (s0 := f) (I := le9) (F := fun h f => fu (fun g f => stM o h g f) (t 0 3) f) (H := fun h f => ∀ m : MI, off1 (M + 3) m mi → (∀ k, k < 36 → m (M + 3) k = nI (f k)) → ∀ z3 z4 : Option Value, J cX12_joins 5 yX12_joins.cls yX12_joins.name none 1 G X post 0 0 m ml mr dom 67 [some (.ref M), some (.int (nI o)), some (.int (nI h)), z3, z4] []) hle (fun h f hf => fu_le9 (fun g f hf => stM_le hf) _ _ hf) (fun h hhh f hle ihh m hm hf z3 z4 => ?_) (fun m hm hf z3 z4 => ?_) m hm hf _ _
      · skip
        refine j_iload_n dX12_joins_67 rfl rfl ?_
        refine j_aload_n dX12_joins_68 rfl rfl ?_
        refine gI12_100 (kM0 hM) dX12_joins_69 ?_
        rw [hm M (by omega), hR.1 3 (by decide)]
        refine j_icmp_ge (tgt := 151) dX12_joins_72 (by decide) (fun h72 => by exfalso; rw [nI_leI (by omega) (by omega)] at h72; omega) (fun h72 => ?_)
        refine j_iconst (v := nI 0) dX12_joins_75 (by decide) ?_
        refine j_istore_n (lv2 := [_, _, _, _, _]) dX12_joins_76 rfl (by decide) rfl rfl ?_
        refine fl (σ := Nat → Nat) (n := t 0 3) (s0 := f) (I := le9) (F := fun g f => stM o h g f) (H := fun g f => ∀ m : MI, off1 (M + 3) m mi → (∀ k, k < 36 → m (M + 3) k = nI (f k)) → ∀ z4 : Option Value, J cX12_joins 5 yX12_joins.cls yX12_joins.name none 1 G X post 0 0 m ml mr dom 77 [some (.ref M), some (.int (nI o)), some (.int (nI h)), some (.int (nI g)), z4] []) hle (fun g f hf => stM_le hf) (fun g hgg f hle ihg m hm hf z4 => ?_) (fun m hm hf z4 => ?_) m hm hf _
        · skip
          refine j_iload_n dX12_joins_77 rfl rfl ?_
          refine j_aload_n dX12_joins_78 rfl rfl ?_
          refine gI12_100 (kM0 hM) dX12_joins_79 ?_
          rw [hm M (by omega), hR.1 3 (by decide)]
          refine j_icmp_ge (tgt := 145) dX12_joins_82 (by decide) (fun h82 => by exfalso; rw [nI_leI (by omega) (by omega)] at h82; omega) (fun h82 => ?_)
          refine j_aload_n dX12_joins_85 rfl rfl ?_
          refine gR12_18 (kM0 hM) dX12_joins_86 (xM3 hY) ?_
          refine j_bipush (v := nI 6) dX12_joins_89 (by decide) ?_
          refine j_iload_n dX12_joins_91 rfl rfl ?_
          refine j_imul dX12_joins_92 ?_
          rw [pk_mul]
          refine j_iload_n dX12_joins_93 rfl rfl ?_
          refine j_iadd dX12_joins_94 ?_
          rw [nI_add]
          refine j_iald (kM3 hM) (inT (lM3 hM) (by show (6 * h) + o < 36; omega) (by decide)) dX12_joins_95 ?_
          rw [nI_clamp (by omega), hf _ (by show (6 * h) + o < 36; omega)]
          refine j_aload_n dX12_joins_96 rfl rfl ?_
          refine gR12_18 (kM0 hM) dX12_joins_97 (xM3 hY) ?_
          refine j_bipush (v := nI 6) dX12_joins_100 (by decide) ?_
          refine j_iload_n dX12_joins_102 rfl rfl ?_
          refine j_imul dX12_joins_103 ?_
          rw [pk_mul]
          refine j_iload_n dX12_joins_104 rfl rfl ?_
          refine j_iadd dX12_joins_105 ?_
          rw [nI_add]
          refine j_iald (kM3 hM) (inT (lM3 hM) (by show (6 * o) + g < 36; omega) (by decide)) dX12_joins_106 ?_
          rw [nI_clamp (by omega), hf _ (by show (6 * o) + g < 36; omega)]
          refine j_iadd dX12_joins_107 ?_
          rw [nI_add]
          refine j_istore (lv2 := [_, _, _, _, _]) dX12_joins_108 (by decide) rfl rfl ?_
          refine j_iload dX12_joins_110 rfl ?_
          refine j_aload_n dX12_joins_112 rfl rfl ?_
          refine gR12_18 (kM0 hM) dX12_joins_113 (xM3 hY) ?_
          refine j_bipush (v := nI 6) dX12_joins_116 (by decide) ?_
          refine j_iload_n dX12_joins_118 rfl rfl ?_
          refine j_imul dX12_joins_119 ?_
          rw [pk_mul]
          refine j_iload_n dX12_joins_120 rfl rfl ?_
          refine j_iadd dX12_joins_121 ?_
          rw [nI_add]
          refine j_iald (kM3 hM) (inT (lM3 hM) (by show (6 * h) + g < 36; omega) (by decide)) dX12_joins_122 ?_
          rw [nI_clamp (by omega), hf _ (by show (6 * h) + g < 36; omega)]
          refine j_icmp_ge (tgt := 139) dX12_joins_123 (by decide) (fun h123 => ?_) (fun h123 => ?_)
          all_goals rw [nI_leI (by have := hle ((6 * h) + g); omega) (by have := hle ((6 * h) + o); have := hle ((6 * o) + g); omega)] at h123
          · refine j_iinc1 (lv2 := [_, _, _, _, _]) dX12_joins_139 rfl (by decide) rfl rfl ?_
            rw [nI_1]
            refine j_goto (tgt := 77) dX12_joins_142 (by decide) ?_
            have c1 : stM o h g f = f := if_neg (by omega)
            rw [c1] at ihg
            exact ihg m hm hf _
          · refine j_aload_n dX12_joins_126 rfl rfl ?_
            refine gR12_18 (kM0 hM) dX12_joins_127 (xM3 hY) ?_
            refine j_bipush (v := nI 6) dX12_joins_130 (by decide) ?_
            refine j_iload_n dX12_joins_132 rfl rfl ?_
            refine j_imul dX12_joins_133 ?_
            rw [pk_mul]
            refine j_iload_n dX12_joins_134 rfl rfl ?_
            refine j_iadd dX12_joins_135 ?_
            rw [nI_add]
            refine j_iload dX12_joins_136 rfl ?_
            refine j_iast (kM3 hM) (inT (lM3 hM) (by show (6 * h) + g < 36; omega) (by decide)) dX12_joins_138 ?_
            rw [nI_clamp (by omega)]
            refine j_iinc1 (lv2 := [_, _, _, _, _]) dX12_joins_139 rfl (by decide) rfl rfl ?_
            rw [nI_1]
            refine j_goto (tgt := 77) dX12_joins_142 (by decide) ?_
            have c1 : stM o h g f = upN f (6 * h + g) (f (6 * h + o) + f (6 * o + g)) := if_pos (by omega)
            rw [c1] at ihg
            refine ihg _ (fun z hz => by rw [up_off _ _ hz]; exact hm z hz) (fun k hk => ?_) _
            by_cases q : k = 6 * h + g
            · subst q; rw [up_at]; unfold upN; rw [if_pos rfl]
            · rw [up_ne _ _ q]; unfold upN; rw [if_neg q]; exact hf k hk
        · skip
          refine j_iload_n dX12_joins_77 rfl rfl ?_
          refine j_aload_n dX12_joins_78 rfl rfl ?_
          refine gI12_100 (kM0 hM) dX12_joins_79 ?_
          rw [hm M (by omega), hR.1 3 (by decide)]
          refine j_icmp_ge (tgt := 145) dX12_joins_82 (by decide) (fun h82 => ?_) (fun h82 => by exfalso; rw [nI_leI (by omega) (by omega)] at h82; omega)
          refine j_iinc1 (lv2 := [_, _, _, _, _]) dX12_joins_145 rfl (by decide) rfl rfl ?_
          rw [nI_1]
          refine j_goto (tgt := 67) dX12_joins_148 (by decide) ?_
          exact ihh m hm hf _ _
      · skip
        refine j_iload_n dX12_joins_67 rfl rfl ?_
        refine j_aload_n dX12_joins_68 rfl rfl ?_
        refine gI12_100 (kM0 hM) dX12_joins_69 ?_
        rw [hm M (by omega), hR.1 3 (by decide)]
        refine j_icmp_ge (tgt := 151) dX12_joins_72 (by decide) (fun h72 => ?_) (fun h72 => by exfalso; rw [nI_leI (by omega) (by omega)] at h72; omega)
        refine j_iinc1 (lv2 := [_, _, _, _, _]) dX12_joins_151 rfl (by decide) rfl rfl ?_
        rw [nI_1]
        refine j_goto (tgt := 57) dX12_joins_154 (by decide) ?_
        exact iho m hm hf _ _ _
    · skip
      refine j_iload_n dX12_joins_57 rfl rfl ?_
      refine j_aload_n dX12_joins_58 rfl rfl ?_
      refine gI12_100 (kM0 hM) dX12_joins_59 ?_
      rw [hm M (by omega), hR.1 3 (by decide)]
      refine j_icmp_ge (tgt := 157) dX12_joins_62 (by decide) (fun h62 => ?_) (fun h62 => by exfalso; rw [nI_leI (by omega) (by omega)] at h62; omega)
      refine j_vret rfl dX12_joins_157 ?_
      exact hp m hm hf
  have key1 : ∀ m : MI, off1 (M + 3) m mi → (∀ k, k < 0 → m (M + 3) k = nI (iniM (t 2) k)) → ∀ z2 z3 z4 : Option Value, J cX12_joins 5 yX12_joins.cls yX12_joins.name none 1 G X post 0 0 m ml mr dom 2 [some (.ref M), some (.int (nI 0)), z2, z3, z4] [] := by
    refine lq (n := 36) (H := fun i => ∀ m : MI, off1 (M + 3) m mi → (∀ k, k < i → m (M + 3) k = nI (iniM (t 2) k)) → ∀ z2 z3 z4 : Option Value, J cX12_joins 5 yX12_joins.cls yX12_joins.name none 1 G X post 0 0 m ml mr dom 2 [some (.ref M), some (.int (nI i)), z2, z3, z4] []) (fun m hm hf z2 z3 z4 => ?_) (fun i hi ih m hm hf z2 z3 z4 => ?_)
    · skip
      refine j_iload_n dX12_joins_2 rfl rfl ?_
      refine j_bipush (v := nI 36) dX12_joins_3 (by decide) ?_
      refine j_icmp_ge (tgt := 55) dX12_joins_5 (by decide) (fun h5 => ?_) (fun h5 => by exfalso; rw [nI_leI (by omega) (by omega)] at h5; omega)
      refine j_iconst (v := nI 0) dX12_joins_55 (by decide) ?_
      refine j_istore_n (lv2 := [_, _, _, _, _]) dX12_joins_56 rfl (by decide) rfl rfl ?_
      exact keyo m hm hf _ _ _
    · skip
      refine j_iload_n dX12_joins_2 rfl rfl ?_
      refine j_bipush (v := nI 36) dX12_joins_3 (by decide) ?_
      refine j_icmp_ge (tgt := 55) dX12_joins_5 (by decide) (fun h5 => by exfalso; rw [nI_leI (by omega) (by omega)] at h5; omega) (fun h5 => ?_)
      refine j_aload_n dX12_joins_8 rfl rfl ?_
      refine gR12_18 (kM0 hM) dX12_joins_9 (xM3 hY) ?_
      refine j_iload_n dX12_joins_12 rfl rfl ?_
      refine j_iload_n dX12_joins_13 rfl rfl ?_
      refine j_bipush (v := nI 6) dX12_joins_14 (by decide) ?_
      refine j_idiv dX12_joins_16 (by decide) ?_
      rw [pk_div (by omega) (by show 0 < 6; omega) (by omega)]
      refine j_iload_n dX12_joins_17 rfl rfl ?_
      refine j_bipush (v := nI 6) dX12_joins_18 (by decide) ?_
      refine j_irem dX12_joins_20 (by decide) ?_
      rw [pk_rem (by omega) (by show 0 < 6; omega) (by omega)]
      refine j_icmp_ne (tgt := 28) dX12_joins_21 (by decide) (fun h21 => ?_) (fun h21 => ?_)
      all_goals rw [nI_eq (by omega) (by omega)] at h21
      · refine j_aload_n dX12_joins_28 rfl rfl ?_
        refine gR12_15 (kM0 hM) dX12_joins_29 (xM2 hY) ?_
        refine j_iload_n dX12_joins_32 rfl rfl ?_
        refine j_iald (kM2 hM) (inT (lM2 hM) (show i < 36 by omega) (by decide)) dX12_joins_33 ?_
        rw [nI_clamp (by omega), hm (M + 2) (by omega), rM2 hR (show i < 36 by omega)]
        refine j_if_le (tgt := 46) dX12_joins_34 (by decide) (fun h34 => ?_) (fun h34 => ?_)
        all_goals rw [show (0 : Int32) = nI 0 from rfl, nI_leI (by have := hg 2 i; omega) (by decide)] at h34
        · refine j_ldc wd1732 dX12_joins_46 ?_
          rw [show (99999 : Int32) = nI 99999 from rfl]
          refine j_iast (kM3 hM) (inT (lM3 hM) (by show i < 36; omega) (by decide)) dX12_joins_48 ?_
          rw [nI_clamp (by omega)]
          refine j_iinc1 (lv2 := [_, _, _, _, _]) dX12_joins_49 rfl (by decide) rfl rfl ?_
          rw [nI_1]
          refine j_goto (tgt := 2) dX12_joins_52 (by decide) ?_
          refine ih _ (fun z hz => by rw [up_off _ _ hz]; exact hm z hz) (fun k hk => ?_) _ _ _
          by_cases q : k = i
          · subst q; rw [up_at]; unfold iniM
            first
              | (rw [if_pos h21])
              | (rw [if_neg h21, if_pos (by omega)])
              | (rw [if_neg h21, if_neg (by omega)])
          · rw [up_ne _ _ q]; exact hf k (by omega)
        · refine j_aload_n dX12_joins_37 rfl rfl ?_
          refine gR12_15 (kM0 hM) dX12_joins_38 (xM2 hY) ?_
          refine j_iload_n dX12_joins_41 rfl rfl ?_
          refine j_iald (kM2 hM) (inT (lM2 hM) (show i < 36 by omega) (by decide)) dX12_joins_42 ?_
          rw [nI_clamp (by omega), hm (M + 2) (by omega), rM2 hR (show i < 36 by omega)]
          refine j_goto (tgt := 48) dX12_joins_43 (by decide) ?_
          refine j_iast (kM3 hM) (inT (lM3 hM) (by show i < 36; omega) (by decide)) dX12_joins_48 ?_
          rw [nI_clamp (by omega)]
          refine j_iinc1 (lv2 := [_, _, _, _, _]) dX12_joins_49 rfl (by decide) rfl rfl ?_
          rw [nI_1]
          refine j_goto (tgt := 2) dX12_joins_52 (by decide) ?_
          refine ih _ (fun z hz => by rw [up_off _ _ hz]; exact hm z hz) (fun k hk => ?_) _ _ _
          by_cases q : k = i
          · subst q; rw [up_at]; unfold iniM
            first
              | (rw [if_pos h21])
              | (rw [if_neg h21, if_pos (by omega)])
              | (rw [if_neg h21, if_neg (by omega)])
          · rw [up_ne _ _ q]; exact hf k (by omega)
      · refine j_iconst (v := nI 0) dX12_joins_24 (by decide) ?_
        refine j_goto (tgt := 48) dX12_joins_25 (by decide) ?_
        refine j_iast (kM3 hM) (inT (lM3 hM) (by show i < 36; omega) (by decide)) dX12_joins_48 ?_
        rw [nI_clamp (by omega)]
        refine j_iinc1 (lv2 := [_, _, _, _, _]) dX12_joins_49 rfl (by decide) rfl rfl ?_
        rw [nI_1]
        refine j_goto (tgt := 2) dX12_joins_52 (by decide) ?_
        refine ih _ (fun z hz => by rw [up_off _ _ hz]; exact hm z hz) (fun k hk => ?_) _ _ _
        by_cases q : k = i
        · subst q; rw [up_at]; unfold iniM
          first
            | (rw [if_pos h21])
            | (rw [if_neg h21, if_pos (by omega)])
            | (rw [if_neg h21, if_neg (by omega)])
        · rw [up_ne _ _ q]; exact hf k (by omega)
  exact key1 mi (fun _ _ => rfl) (fun k hk => absurd hk (by omega)) none none none
end M12j
