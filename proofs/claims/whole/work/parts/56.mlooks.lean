/-! the reference: looks, names -/
theorem shr10A : ∀ x, x < 32 → ∀ y, y < 32 → ∀ z, z < 32 → ((lN (1024 * x + 32 * y + z) >>> ((nI 10).toInt64 &&& 63)) &&& 31).toInt32 = nI x := by decide +kernel
theorem shr10 (w : Nat) (hw : w < 32768) : ((lN w >>> ((nI 10).toInt64 &&& 63)) &&& 31).toInt32 = nI (w / 1024 % 32) := by
  have h := shr10A (w / 1024) (by omega) (w / 32 % 32) (by omega) (w % 32) (by omega)
  rw [show 1024 * (w / 1024) + 32 * (w / 32 % 32) + w % 32 = w by omega] at h
  rw [h]; congr 1; omega
theorem shr5A : ∀ x, x < 32 → ∀ y, y < 32 → ∀ z, z < 32 → ((lN (1024 * x + 32 * y + z) >>> ((nI 5).toInt64 &&& 63)) &&& 31).toInt32 = nI y := by decide +kernel
theorem shr5 (w : Nat) (hw : w < 32768) : ((lN w >>> ((nI 5).toInt64 &&& 63)) &&& 31).toInt32 = nI (w / 32 % 32) := by
  have h := shr5A (w / 1024) (by omega) (w / 32 % 32) (by omega) (w % 32) (by omega)
  rw [show 1024 * (w / 1024) + 32 * (w / 32 % 32) + w % 32 = w by omega] at h
  rw [h]
theorem shr0A : ∀ x, x < 32 → ∀ y, y < 32 → ∀ z, z < 32 → ((lN (1024 * x + 32 * y + z) >>> ((nI 0).toInt64 &&& 63)) &&& 31).toInt32 = nI z := by decide +kernel
theorem shr0 (w : Nat) (hw : w < 32768) : ((lN w >>> ((nI 0).toInt64 &&& 63)) &&& 31).toInt32 = nI (w % 32) := by
  have h := shr0A (w / 1024) (by omega) (w / 32 % 32) (by omega) (w % 32) (by omega)
  rw [show 1024 * (w / 1024) + 32 * (w / 32 % 32) + w % 32 = w by omega] at h
  rw [h]
def wv (B : Nat → Nat) (a : Nat) : Nat → Nat
  | 0 => 0
  | k + 1 => 32 * wv B a k + (B (a + k) - 96)
theorem hv_wv (B : Nat → Nat) (a : Nat) : ∀ k, (∀ j, j < k → isL (B (a + j)) = true ∧ B (a + j) < 256) → hv 32 (gL B) a k = lN (wv B a k) := by
  intro k
  induction k with
  | zero => intro _; rfl
  | succ k ih =>
    intro h
    have h1 := h k (by omega)
    have e := ((sx_lt _ h1.2).2.2.2.2.2.2.2.1 h1.1).2
    rw [hv, ih (fun j hj => h j (by omega)), wv, gL, e, nI_l (by have := h1.2; omega), show (32 : Int64) = lN 32 from rfl, lN_mul, lN_add]
theorem isL_b {b : Nat} (h : isL b = true) : 97 ≤ b ∧ b ≤ 122 := by unfold isL at h; simpa [Bool.and_eq_true] using h
section M13k
variable {G : GG} {post : PT} {mi : MI} {ml : ML} {mr : MR} {dom : List Nat} {M : Nat} {t : TW} {B : Nat → Nat} {n p : Nat} {e : Nat × Nat}
theorem m_readLook3 {x : ER Nat} (hX : XM mr) (hB : RBM mi B n) (hz : MZ mi ml B n x) (hp : ∀ (v : Int32) m l, FG mi ml m l → MZ m l B n (es Prod.fst (eb x (pL B n 3))) → (∀ q, eb x (pL B n 3) = .inr q → v = nI q.2) → post (some (.int v)) m l mr dom) : CT G 3 0 0 yX13_readLook cX13_readLook 6 (some .int) [.ref 1000, .int (nI 3)] mi ml mr dom post := by
  cases x with
  | inl e =>
    refine enter 4 (by decide) rfl rfl (fun X => ?_)
    refine j_aload_n dX13_readLook_0 rfl rfl ?_
    refine gI13_79 rfl dX13_readLook_1 ?_
    rw [hz.1]
    refine j_iconst (v := nI 2) dX13_readLook_4 (by decide) ?_
    refine j_icmp_eq (tgt := 13) dX13_readLook_5 (by decide) (fun h5 => absurd h5 (by decide)) (fun h5 => ?_)
    refine j_aload_n dX13_readLook_8 rfl rfl ?_
    refine j_iconst (v := nI 1) dX13_readLook_9 (by decide) ?_
    refine cV13_125 (d1 := 1) rfl dX13_readLook_10 (by decide) (Nat.le_of_ble_eq_true rfl) ?_
    refine m_flawO hz.1 ?_
    refine j_iconst (v := nI 0) dX13_readLook_13 (by decide) ?_
    refine j_istore_n (lv2 := [_, _, _, _, _, _]) dX13_readLook_14 rfl (by decide) rfl rfl ?_
    refine j_aload_n dX13_readLook_15 rfl rfl ?_
    refine gI13_99 rfl dX13_readLook_16 ?_
    refine j_iload_n dX13_readLook_19 rfl rfl ?_
    refine j_icmp_ne (tgt := 27) dX13_readLook_20 (by decide) (fun h20 => ?_) (fun h20 => ?_)
    · refine j_iconst (v := nI 0) dX13_readLook_27 (by decide) ?_
      refine j_istore_n (lv2 := [_, _, _, _, _, _]) dX13_readLook_28 rfl (by decide) rfl rfl ?_
      refine j_iload_n dX13_readLook_29 rfl rfl ?_
      refine j_iconst (v := nI 1) dX13_readLook_30 (by decide) ?_
      refine j_isub dX13_readLook_31 ?_
      rw [show nI 3 - nI 1 = nI 2 by decide]
      refine j_istore (lv2 := [_, _, _, _, _, _]) dX13_readLook_32 (by decide) rfl rfl ?_
      refine j_iload dX13_readLook_34 rfl ?_
      refine j_if_lt (tgt := 94) dX13_readLook_36 (by decide) (fun h36 => absurd h36 (by decide)) (fun h36 => ?_)
      refine j_aload_n dX13_readLook_39 rfl rfl ?_
      refine gI13_79 rfl dX13_readLook_40 ?_
      rw [hz.1]
      refine j_iconst (v := nI 2) dX13_readLook_43 (by decide) ?_
      refine j_icmp_ne (tgt := 94) dX13_readLook_44 (by decide) (fun h44 => ?_) (fun h44 => absurd h44 (by decide))
      refine j_iload_n dX13_readLook_94 rfl rfl ?_
      refine j_if_ne (tgt := 104) dX13_readLook_95 (by decide) (fun h95 => absurd (by decide) h95) (fun h95 => ?_)
      refine j_aload_n dX13_readLook_98 rfl rfl ?_
      refine j_bipush (v := nI 7) dX13_readLook_99 (by decide) ?_
      refine cV13_125 (d1 := 1) rfl dX13_readLook_101 (by decide) (Nat.le_of_ble_eq_true rfl) ?_
      refine m_flawO hz.1 ?_
      refine j_aload_n dX13_readLook_104 rfl rfl ?_
      refine cV13_118 (d1 := 2) rfl dX13_readLook_105 (by decide) (Nat.le_of_ble_eq_true rfl) ?_
      refine m_goesO hz.1 ?_
      refine j_iload_n dX13_readLook_108 rfl rfl ?_
      refine j_iret rfl dX13_readLook_109 ?_
      exact hp _ mi ml (FG.rfl' mi ml) hz (fun q h => by cases h)
    · refine j_iconst (v := nI 1) dX13_readLook_23 (by decide) ?_
      refine j_goto (tgt := 28) dX13_readLook_24 (by decide) ?_
      refine j_istore_n (lv2 := [_, _, _, _, _, _]) dX13_readLook_28 rfl (by decide) rfl rfl ?_
      refine j_iload_n dX13_readLook_29 rfl rfl ?_
      refine j_iconst (v := nI 1) dX13_readLook_30 (by decide) ?_
      refine j_isub dX13_readLook_31 ?_
      rw [show nI 3 - nI 1 = nI 2 by decide]
      refine j_istore (lv2 := [_, _, _, _, _, _]) dX13_readLook_32 (by decide) rfl rfl ?_
      refine j_iload dX13_readLook_34 rfl ?_
      refine j_if_lt (tgt := 94) dX13_readLook_36 (by decide) (fun h36 => absurd h36 (by decide)) (fun h36 => ?_)
      refine j_aload_n dX13_readLook_39 rfl rfl ?_
      refine gI13_79 rfl dX13_readLook_40 ?_
      rw [hz.1]
      refine j_iconst (v := nI 2) dX13_readLook_43 (by decide) ?_
      refine j_icmp_ne (tgt := 94) dX13_readLook_44 (by decide) (fun h44 => ?_) (fun h44 => absurd h44 (by decide))
      refine j_iload_n dX13_readLook_94 rfl rfl ?_
      refine j_if_ne (tgt := 104) dX13_readLook_95 (by decide) (fun h95 => ?_) (fun h95 => absurd h95 (by decide))
      refine j_aload_n dX13_readLook_104 rfl rfl ?_
      refine cV13_118 (d1 := 2) rfl dX13_readLook_105 (by decide) (Nat.le_of_ble_eq_true rfl) ?_
      refine m_goesO hz.1 ?_
      refine j_iload_n dX13_readLook_108 rfl rfl ?_
      refine j_iret rfl dX13_readLook_109 ?_
      exact hp _ mi ml (FG.rfl' mi ml) hz (fun q h => by cases h)
  | inr p =>
    have h6 := sM_le (tS_le B n p)
    by_cases h1 : tS B n p = 1
    · have tk := tok_l h1
      have hge := tE_ge B n p
      have hle := tE_le B hz.1
      have hn := hB.2.1
      by_cases hm : tE B n p - tA B n p = 3
      · have lt : ∀ j, j < 3 → isL (B ((tA B n p) + j)) = true ∧ B ((tA B n p) + j) < 256 := fun j hj => ⟨(tk.2.1 _ (by omega) (by omega)).1, (hB.2.2 _ (tk.2.1 _ (by omega) (by omega)).2).2⟩
        have hwd : tH B n p = lN (wv B (tA B n p) 3) := by rw [tk.2.2.2, hm]; exact hv_wv B (tA B n p) 3 lt
        have b0 := isL_b (lt 0 (by decide)).1
        have b1 := isL_b (lt 1 (by decide)).1
        have b2 := isL_b (lt 2 (by decide)).1
        have eW : wv B (tA B n p) 3 = 32 * (32 * (32 * 0 + (B (tA B n p + 0) - 96)) + (B (tA B n p + 1) - 96)) + (B (tA B n p + 2) - 96) := rfl
        refine enter 4 (by decide) rfl rfl (fun X => ?_)
        refine j_aload_n dX13_readLook_0 rfl rfl ?_
        refine gI13_79 rfl dX13_readLook_1 ?_
        rw [hz.2.1.2.1, show sM (tS B n p) = 2 by rw [h1]; rfl]
        refine j_iconst (v := nI 2) dX13_readLook_4 (by decide) ?_
        refine j_icmp_eq (tgt := 13) dX13_readLook_5 (by decide) (fun h5 => ?_) (fun h5 => absurd (by decide) h5)
        refine j_iconst (v := nI 0) dX13_readLook_13 (by decide) ?_
        refine j_istore_n (lv2 := [_, _, _, _, _, _]) dX13_readLook_14 rfl (by decide) rfl rfl ?_
        refine j_aload_n dX13_readLook_15 rfl rfl ?_
        refine gI13_99 rfl dX13_readLook_16 ?_
        rw [(hz.2.1.2.2.2.1 h1).2, hm]
        refine j_iload_n dX13_readLook_19 rfl rfl ?_
        refine j_icmp_ne (tgt := 27) dX13_readLook_20 (by decide) (fun h20 => absurd (by decide) h20) (fun h20 => ?_)
        refine j_iconst (v := nI 1) dX13_readLook_23 (by decide) ?_
        refine j_goto (tgt := 28) dX13_readLook_24 (by decide) ?_
        refine j_istore_n (lv2 := [_, _, _, _, _, _]) dX13_readLook_28 rfl (by decide) rfl rfl ?_
        refine j_iload_n dX13_readLook_29 rfl rfl ?_
        refine j_iconst (v := nI 1) dX13_readLook_30 (by decide) ?_
        refine j_isub dX13_readLook_31 ?_
        rw [show nI 3 - nI 1 = nI 2 by decide]
        refine j_istore (lv2 := [_, _, _, _, _, _]) dX13_readLook_32 (by decide) rfl rfl ?_
        refine j_iload dX13_readLook_34 rfl ?_
        refine j_if_lt (tgt := 94) dX13_readLook_36 (by decide) (fun h36 => absurd h36 (by decide)) (fun h36 => ?_)
        refine j_aload_n dX13_readLook_39 rfl rfl ?_
        refine gI13_79 rfl dX13_readLook_40 ?_
        rw [hz.2.1.2.1, show sM (tS B n p) = 2 by rw [h1]; rfl]
        refine j_iconst (v := nI 2) dX13_readLook_43 (by decide) ?_
        refine j_icmp_ne (tgt := 94) dX13_readLook_44 (by decide) (fun h44 => absurd (by decide) h44) (fun h44 => ?_)
        refine j_iload_n dX13_readLook_47 rfl rfl ?_
        refine j_if_eq (tgt := 94) dX13_readLook_48 (by decide) (fun h48 => absurd h48 (by decide)) (fun h48 => ?_)
        refine j_aload_n dX13_readLook_51 rfl rfl ?_
        refine gL13_95 rfl dX13_readLook_52 ?_
        rw [(hz.2.1.2.2.2.1 h1).1, hwd]
        refine j_iconst (v := nI 5) dX13_readLook_55 (by decide) ?_
        refine j_iload dX13_readLook_56 rfl ?_
        refine j_imul dX13_readLook_58 ?_
        rw [show nI 5 * nI 2 = nI 10 by decide]
        refine j_lshr dX13_readLook_59 ?_
        refine j_ldc2 wd1705 dX13_readLook_60 ?_
        refine j_land dX13_readLook_63 ?_
        refine j_l2i dX13_readLook_64 ?_
        rw [shr10 _ (by omega), show wv B (tA B n p) 3 / 1024 % 32 = B ((tA B n p) + 0) - 96 by omega]
        refine j_istore (lv2 := [_, _, _, _, _, _]) dX13_readLook_65 (by decide) rfl rfl ?_
        refine j_iload dX13_readLook_67 rfl ?_
        refine j_iconst (v := nI 4) dX13_readLook_69 (by decide) ?_
        refine j_icmp_gt (tgt := 77) dX13_readLook_70 (by decide) (fun h70 => ?_) (fun h70 => ?_)
        all_goals rw [nI_ltI (by omega) (by omega)] at h70
        · refine j_iconst (v := nI 0) dX13_readLook_77 (by decide) ?_
          refine j_istore_n (lv2 := [_, _, _, _, _, _]) dX13_readLook_78 rfl (by decide) rfl rfl ?_
          refine j_iconst (v := nI 4) dX13_readLook_79 (by decide) ?_
          refine j_iload_n dX13_readLook_80 rfl rfl ?_
          refine j_imul dX13_readLook_81 ?_
          rw [show nI 4 * nI 0 = nI 0 by decide]
          refine j_iload dX13_readLook_82 rfl ?_
          refine j_iadd dX13_readLook_84 ?_
          rw [show nI 0 + nI (B ((tA B n p) + 0) - 96) = nI (B ((tA B n p) + 0) - 96) by rw [nI_add, Nat.zero_add]]
          refine j_iconst (v := nI 1) dX13_readLook_85 (by decide) ?_
          refine j_isub dX13_readLook_86 ?_
          rw [pk_sub (by show 1 ≤ B ((tA B n p) + 0) - 96; omega)]
          refine j_istore_n (lv2 := [_, _, _, _, _, _]) dX13_readLook_87 rfl (by decide) rfl rfl ?_
          refine j_iincm (lv2 := [_, _, _, _, _, _]) dX13_readLook_88 rfl (by decide) rfl rfl ?_
          rw [show nI 2 - 1 = nI 1 from rfl]
          refine j_goto (tgt := 34) dX13_readLook_91 (by decide) ?_
          refine j_iload dX13_readLook_34 rfl ?_
          refine j_if_lt (tgt := 94) dX13_readLook_36 (by decide) (fun h36 => absurd h36 (by decide)) (fun h36 => ?_)
          refine j_aload_n dX13_readLook_39 rfl rfl ?_
          refine gI13_79 rfl dX13_readLook_40 ?_
          rw [hz.2.1.2.1, show sM (tS B n p) = 2 by rw [h1]; rfl]
          refine j_iconst (v := nI 2) dX13_readLook_43 (by decide) ?_
          refine j_icmp_ne (tgt := 94) dX13_readLook_44 (by decide) (fun h44 => absurd (by decide) h44) (fun h44 => ?_)
          refine j_iload_n dX13_readLook_47 rfl rfl ?_
          refine j_if_eq (tgt := 94) dX13_readLook_48 (by decide) (fun h48 => ?_) (fun h48 => absurd (by decide) h48)
          refine j_iload_n dX13_readLook_94 rfl rfl ?_
          refine j_if_ne (tgt := 104) dX13_readLook_95 (by decide) (fun h95 => absurd (by decide) h95) (fun h95 => ?_)
          refine j_aload_n dX13_readLook_98 rfl rfl ?_
          refine j_bipush (v := nI 7) dX13_readLook_99 (by decide) ?_
          refine cV13_125 (d1 := 1) rfl dX13_readLook_101 (by decide) (Nat.le_of_ble_eq_true rfl) ?_
          refine m_flawN (k := 7) hz (fun m1 f1 z1 => ?_)
          refine j_aload_n dX13_readLook_104 rfl rfl ?_
          refine cV13_118 (d1 := 2) rfl dX13_readLook_105 (by decide) (Nat.le_of_ble_eq_true rfl) ?_
          refine m_goesO z1.1 ?_
          refine j_iload_n dX13_readLook_108 rfl rfl ?_
          refine j_iret rfl dX13_readLook_109 ?_
          have hr0 : rq (fun k => decide (B k ≤ 100)) (tE B n p) (tA B n p) < tE B n p := by
            have h8 := rq_le (fun k => decide (B k ≤ 100)) (tE B n p) (tA B n p) (by omega)
            by_cases q : rq (fun k => decide (B k ≤ 100)) (tE B n p) (tA B n p) = tE B n p
            · exfalso
              have h9 : ∀ d, d < 3 → B ((tA B n p) + d) ≤ 100 := fun d hd => of_decide_eq_true (rq_in (fun k => decide (B k ≤ 100)) (tE B n p) (tA B n p) ((tA B n p) + d) (by omega) (by omega)).1
              have := h9 0 (by omega)
              have := h9 1 (by omega)
              have := h9 2 (by omega)
              simp only [Nat.add_zero] at *
              omega
            · omega
          have hq : pL B n 3 p = .inl (7, tA B n p) := by unfold pL; rw [if_neg (fun q => q h1), if_neg (fun q => q hm), if_pos hr0]
          refine hp _ m1 ml f1 ?_ (fun q h => ?_)
          · show MZ m1 ml B n (es Prod.fst (pL B n 3 p)); rw [hq]; exact z1
          · have h : pL B n 3 p = .inr q := h
            rw [hq] at h; cases h
        · refine j_iconst (v := nI 1) dX13_readLook_73 (by decide) ?_
          refine j_goto (tgt := 78) dX13_readLook_74 (by decide) ?_
          refine j_istore_n (lv2 := [_, _, _, _, _, _]) dX13_readLook_78 rfl (by decide) rfl rfl ?_
          refine j_iconst (v := nI 4) dX13_readLook_79 (by decide) ?_
          refine j_iload_n dX13_readLook_80 rfl rfl ?_
          refine j_imul dX13_readLook_81 ?_
          rw [show nI 4 * nI 0 = nI 0 by decide]
          refine j_iload dX13_readLook_82 rfl ?_
          refine j_iadd dX13_readLook_84 ?_
          rw [show nI 0 + nI (B ((tA B n p) + 0) - 96) = nI (B ((tA B n p) + 0) - 96) by rw [nI_add, Nat.zero_add]]
          refine j_iconst (v := nI 1) dX13_readLook_85 (by decide) ?_
          refine j_isub dX13_readLook_86 ?_
          rw [pk_sub (by show 1 ≤ B ((tA B n p) + 0) - 96; omega)]
          refine j_istore_n (lv2 := [_, _, _, _, _, _]) dX13_readLook_87 rfl (by decide) rfl rfl ?_
          refine j_iincm (lv2 := [_, _, _, _, _, _]) dX13_readLook_88 rfl (by decide) rfl rfl ?_
          rw [show nI 2 - 1 = nI 1 from rfl]
          refine j_goto (tgt := 34) dX13_readLook_91 (by decide) ?_
          refine j_iload dX13_readLook_34 rfl ?_
          refine j_if_lt (tgt := 94) dX13_readLook_36 (by decide) (fun h36 => absurd h36 (by decide)) (fun h36 => ?_)
          refine j_aload_n dX13_readLook_39 rfl rfl ?_
          refine gI13_79 rfl dX13_readLook_40 ?_
          rw [hz.2.1.2.1, show sM (tS B n p) = 2 by rw [h1]; rfl]
          refine j_iconst (v := nI 2) dX13_readLook_43 (by decide) ?_
          refine j_icmp_ne (tgt := 94) dX13_readLook_44 (by decide) (fun h44 => absurd (by decide) h44) (fun h44 => ?_)
          refine j_iload_n dX13_readLook_47 rfl rfl ?_
          refine j_if_eq (tgt := 94) dX13_readLook_48 (by decide) (fun h48 => absurd h48 (by decide)) (fun h48 => ?_)
          refine j_aload_n dX13_readLook_51 rfl rfl ?_
          refine gL13_95 rfl dX13_readLook_52 ?_
          rw [(hz.2.1.2.2.2.1 h1).1, hwd]
          refine j_iconst (v := nI 5) dX13_readLook_55 (by decide) ?_
          refine j_iload dX13_readLook_56 rfl ?_
          refine j_imul dX13_readLook_58 ?_
          rw [show nI 5 * nI 1 = nI 5 by decide]
          refine j_lshr dX13_readLook_59 ?_
          refine j_ldc2 wd1705 dX13_readLook_60 ?_
          refine j_land dX13_readLook_63 ?_
          refine j_l2i dX13_readLook_64 ?_
          rw [shr5 _ (by omega), show wv B (tA B n p) 3 / 32 % 32 = B ((tA B n p) + 1) - 96 by omega]
          refine j_istore (lv2 := [_, _, _, _, _, _]) dX13_readLook_65 (by decide) rfl rfl ?_
          refine j_iload dX13_readLook_67 rfl ?_
          refine j_iconst (v := nI 4) dX13_readLook_69 (by decide) ?_
          refine j_icmp_gt (tgt := 77) dX13_readLook_70 (by decide) (fun h70 => ?_) (fun h70 => ?_)
          all_goals rw [nI_ltI (by omega) (by omega)] at h70
          · refine j_iconst (v := nI 0) dX13_readLook_77 (by decide) ?_
            refine j_istore_n (lv2 := [_, _, _, _, _, _]) dX13_readLook_78 rfl (by decide) rfl rfl ?_
            refine j_iconst (v := nI 4) dX13_readLook_79 (by decide) ?_
            refine j_iload_n dX13_readLook_80 rfl rfl ?_
            refine j_imul dX13_readLook_81 ?_
            rw [pk_mul]
            refine j_iload dX13_readLook_82 rfl ?_
            refine j_iadd dX13_readLook_84 ?_
            rw [nI_add]
            refine j_iconst (v := nI 1) dX13_readLook_85 (by decide) ?_
            refine j_isub dX13_readLook_86 ?_
            rw [pk_sub (by show 1 ≤ (4 * ((B ((tA B n p) + 0) - 96) - 1)) + (B ((tA B n p) + 1) - 96); omega)]
            refine j_istore_n (lv2 := [_, _, _, _, _, _]) dX13_readLook_87 rfl (by decide) rfl rfl ?_
            refine j_iincm (lv2 := [_, _, _, _, _, _]) dX13_readLook_88 rfl (by decide) rfl rfl ?_
            rw [show nI 1 - 1 = nI 0 from rfl]
            refine j_goto (tgt := 34) dX13_readLook_91 (by decide) ?_
            refine j_iload dX13_readLook_34 rfl ?_
            refine j_if_lt (tgt := 94) dX13_readLook_36 (by decide) (fun h36 => absurd h36 (by decide)) (fun h36 => ?_)
            refine j_aload_n dX13_readLook_39 rfl rfl ?_
            refine gI13_79 rfl dX13_readLook_40 ?_
            rw [hz.2.1.2.1, show sM (tS B n p) = 2 by rw [h1]; rfl]
            refine j_iconst (v := nI 2) dX13_readLook_43 (by decide) ?_
            refine j_icmp_ne (tgt := 94) dX13_readLook_44 (by decide) (fun h44 => absurd (by decide) h44) (fun h44 => ?_)
            refine j_iload_n dX13_readLook_47 rfl rfl ?_
            refine j_if_eq (tgt := 94) dX13_readLook_48 (by decide) (fun h48 => ?_) (fun h48 => absurd (by decide) h48)
            refine j_iload_n dX13_readLook_94 rfl rfl ?_
            refine j_if_ne (tgt := 104) dX13_readLook_95 (by decide) (fun h95 => absurd (by decide) h95) (fun h95 => ?_)
            refine j_aload_n dX13_readLook_98 rfl rfl ?_
            refine j_bipush (v := nI 7) dX13_readLook_99 (by decide) ?_
            refine cV13_125 (d1 := 1) rfl dX13_readLook_101 (by decide) (Nat.le_of_ble_eq_true rfl) ?_
            refine m_flawN (k := 7) hz (fun m1 f1 z1 => ?_)
            refine j_aload_n dX13_readLook_104 rfl rfl ?_
            refine cV13_118 (d1 := 2) rfl dX13_readLook_105 (by decide) (Nat.le_of_ble_eq_true rfl) ?_
            refine m_goesO z1.1 ?_
            refine j_iload_n dX13_readLook_108 rfl rfl ?_
            refine j_iret rfl dX13_readLook_109 ?_
            have hr0 : rq (fun k => decide (B k ≤ 100)) (tE B n p) (tA B n p) < tE B n p := by
              have h8 := rq_le (fun k => decide (B k ≤ 100)) (tE B n p) (tA B n p) (by omega)
              by_cases q : rq (fun k => decide (B k ≤ 100)) (tE B n p) (tA B n p) = tE B n p
              · exfalso
                have h9 : ∀ d, d < 3 → B ((tA B n p) + d) ≤ 100 := fun d hd => of_decide_eq_true (rq_in (fun k => decide (B k ≤ 100)) (tE B n p) (tA B n p) ((tA B n p) + d) (by omega) (by omega)).1
                have := h9 0 (by omega)
                have := h9 1 (by omega)
                have := h9 2 (by omega)
                simp only [Nat.add_zero] at *
                omega
              · omega
            have hq : pL B n 3 p = .inl (7, tA B n p) := by unfold pL; rw [if_neg (fun q => q h1), if_neg (fun q => q hm), if_pos hr0]
            refine hp _ m1 ml f1 ?_ (fun q h => ?_)
            · show MZ m1 ml B n (es Prod.fst (pL B n 3 p)); rw [hq]; exact z1
            · have h : pL B n 3 p = .inr q := h
              rw [hq] at h; cases h
          · refine j_iconst (v := nI 1) dX13_readLook_73 (by decide) ?_
            refine j_goto (tgt := 78) dX13_readLook_74 (by decide) ?_
            refine j_istore_n (lv2 := [_, _, _, _, _, _]) dX13_readLook_78 rfl (by decide) rfl rfl ?_
            refine j_iconst (v := nI 4) dX13_readLook_79 (by decide) ?_
            refine j_iload_n dX13_readLook_80 rfl rfl ?_
            refine j_imul dX13_readLook_81 ?_
            rw [pk_mul]
            refine j_iload dX13_readLook_82 rfl ?_
            refine j_iadd dX13_readLook_84 ?_
            rw [nI_add]
            refine j_iconst (v := nI 1) dX13_readLook_85 (by decide) ?_
            refine j_isub dX13_readLook_86 ?_
            rw [pk_sub (by show 1 ≤ (4 * ((B ((tA B n p) + 0) - 96) - 1)) + (B ((tA B n p) + 1) - 96); omega)]
            refine j_istore_n (lv2 := [_, _, _, _, _, _]) dX13_readLook_87 rfl (by decide) rfl rfl ?_
            refine j_iincm (lv2 := [_, _, _, _, _, _]) dX13_readLook_88 rfl (by decide) rfl rfl ?_
            rw [show nI 1 - 1 = nI 0 from rfl]
            refine j_goto (tgt := 34) dX13_readLook_91 (by decide) ?_
            refine j_iload dX13_readLook_34 rfl ?_
            refine j_if_lt (tgt := 94) dX13_readLook_36 (by decide) (fun h36 => absurd h36 (by decide)) (fun h36 => ?_)
            refine j_aload_n dX13_readLook_39 rfl rfl ?_
            refine gI13_79 rfl dX13_readLook_40 ?_
            rw [hz.2.1.2.1, show sM (tS B n p) = 2 by rw [h1]; rfl]
            refine j_iconst (v := nI 2) dX13_readLook_43 (by decide) ?_
            refine j_icmp_ne (tgt := 94) dX13_readLook_44 (by decide) (fun h44 => absurd (by decide) h44) (fun h44 => ?_)
            refine j_iload_n dX13_readLook_47 rfl rfl ?_
            refine j_if_eq (tgt := 94) dX13_readLook_48 (by decide) (fun h48 => absurd h48 (by decide)) (fun h48 => ?_)
            refine j_aload_n dX13_readLook_51 rfl rfl ?_
            refine gL13_95 rfl dX13_readLook_52 ?_
            rw [(hz.2.1.2.2.2.1 h1).1, hwd]
            refine j_iconst (v := nI 5) dX13_readLook_55 (by decide) ?_
            refine j_iload dX13_readLook_56 rfl ?_
            refine j_imul dX13_readLook_58 ?_
            rw [show nI 5 * nI 0 = nI 0 by decide]
            refine j_lshr dX13_readLook_59 ?_
            refine j_ldc2 wd1705 dX13_readLook_60 ?_
            refine j_land dX13_readLook_63 ?_
            refine j_l2i dX13_readLook_64 ?_
            rw [shr0 _ (by omega), show wv B (tA B n p) 3 % 32 = B ((tA B n p) + 2) - 96 by omega]
            refine j_istore (lv2 := [_, _, _, _, _, _]) dX13_readLook_65 (by decide) rfl rfl ?_
            refine j_iload dX13_readLook_67 rfl ?_
            refine j_iconst (v := nI 4) dX13_readLook_69 (by decide) ?_
            refine j_icmp_gt (tgt := 77) dX13_readLook_70 (by decide) (fun h70 => ?_) (fun h70 => ?_)
            all_goals rw [nI_ltI (by omega) (by omega)] at h70
            · refine j_iconst (v := nI 0) dX13_readLook_77 (by decide) ?_
              refine j_istore_n (lv2 := [_, _, _, _, _, _]) dX13_readLook_78 rfl (by decide) rfl rfl ?_
              refine j_iconst (v := nI 4) dX13_readLook_79 (by decide) ?_
              refine j_iload_n dX13_readLook_80 rfl rfl ?_
              refine j_imul dX13_readLook_81 ?_
              rw [pk_mul]
              refine j_iload dX13_readLook_82 rfl ?_
              refine j_iadd dX13_readLook_84 ?_
              rw [nI_add]
              refine j_iconst (v := nI 1) dX13_readLook_85 (by decide) ?_
              refine j_isub dX13_readLook_86 ?_
              rw [pk_sub (by show 1 ≤ (4 * (((4 * ((B ((tA B n p) + 0) - 96) - 1)) + (B ((tA B n p) + 1) - 96)) - 1)) + (B ((tA B n p) + 2) - 96); omega)]
              refine j_istore_n (lv2 := [_, _, _, _, _, _]) dX13_readLook_87 rfl (by decide) rfl rfl ?_
              refine j_iincm (lv2 := [_, _, _, _, _, _]) dX13_readLook_88 rfl (by decide) rfl rfl ?_
              rw [show nI 0 - 1 = (-1 : Int32) from rfl]
              refine j_goto (tgt := 34) dX13_readLook_91 (by decide) ?_
              refine j_iload dX13_readLook_34 rfl ?_
              refine j_if_lt (tgt := 94) dX13_readLook_36 (by decide) (fun h36 => ?_) (fun h36 => absurd (by decide) h36)
              refine j_iload_n dX13_readLook_94 rfl rfl ?_
              refine j_if_ne (tgt := 104) dX13_readLook_95 (by decide) (fun h95 => absurd (by decide) h95) (fun h95 => ?_)
              refine j_aload_n dX13_readLook_98 rfl rfl ?_
              refine j_bipush (v := nI 7) dX13_readLook_99 (by decide) ?_
              refine cV13_125 (d1 := 1) rfl dX13_readLook_101 (by decide) (Nat.le_of_ble_eq_true rfl) ?_
              refine m_flawN (k := 7) hz (fun m1 f1 z1 => ?_)
              refine j_aload_n dX13_readLook_104 rfl rfl ?_
              refine cV13_118 (d1 := 2) rfl dX13_readLook_105 (by decide) (Nat.le_of_ble_eq_true rfl) ?_
              refine m_goesO z1.1 ?_
              refine j_iload_n dX13_readLook_108 rfl rfl ?_
              refine j_iret rfl dX13_readLook_109 ?_
              have hr0 : rq (fun k => decide (B k ≤ 100)) (tE B n p) (tA B n p) < tE B n p := by
                have h8 := rq_le (fun k => decide (B k ≤ 100)) (tE B n p) (tA B n p) (by omega)
                by_cases q : rq (fun k => decide (B k ≤ 100)) (tE B n p) (tA B n p) = tE B n p
                · exfalso
                  have h9 : ∀ d, d < 3 → B ((tA B n p) + d) ≤ 100 := fun d hd => of_decide_eq_true (rq_in (fun k => decide (B k ≤ 100)) (tE B n p) (tA B n p) ((tA B n p) + d) (by omega) (by omega)).1
                  have := h9 0 (by omega)
                  have := h9 1 (by omega)
                  have := h9 2 (by omega)
                  simp only [Nat.add_zero] at *
                  omega
                · omega
              have hq : pL B n 3 p = .inl (7, tA B n p) := by unfold pL; rw [if_neg (fun q => q h1), if_neg (fun q => q hm), if_pos hr0]
              refine hp _ m1 ml f1 ?_ (fun q h => ?_)
              · show MZ m1 ml B n (es Prod.fst (pL B n 3 p)); rw [hq]; exact z1
              · have h : pL B n 3 p = .inr q := h
                rw [hq] at h; cases h
            · refine j_iconst (v := nI 1) dX13_readLook_73 (by decide) ?_
              refine j_goto (tgt := 78) dX13_readLook_74 (by decide) ?_
              refine j_istore_n (lv2 := [_, _, _, _, _, _]) dX13_readLook_78 rfl (by decide) rfl rfl ?_
              refine j_iconst (v := nI 4) dX13_readLook_79 (by decide) ?_
              refine j_iload_n dX13_readLook_80 rfl rfl ?_
              refine j_imul dX13_readLook_81 ?_
              rw [pk_mul]
              refine j_iload dX13_readLook_82 rfl ?_
              refine j_iadd dX13_readLook_84 ?_
              rw [nI_add]
              refine j_iconst (v := nI 1) dX13_readLook_85 (by decide) ?_
              refine j_isub dX13_readLook_86 ?_
              rw [pk_sub (by show 1 ≤ (4 * (((4 * ((B ((tA B n p) + 0) - 96) - 1)) + (B ((tA B n p) + 1) - 96)) - 1)) + (B ((tA B n p) + 2) - 96); omega)]
              refine j_istore_n (lv2 := [_, _, _, _, _, _]) dX13_readLook_87 rfl (by decide) rfl rfl ?_
              refine j_iincm (lv2 := [_, _, _, _, _, _]) dX13_readLook_88 rfl (by decide) rfl rfl ?_
              rw [show nI 0 - 1 = (-1 : Int32) from rfl]
              refine j_goto (tgt := 34) dX13_readLook_91 (by decide) ?_
              refine j_iload dX13_readLook_34 rfl ?_
              refine j_if_lt (tgt := 94) dX13_readLook_36 (by decide) (fun h36 => ?_) (fun h36 => absurd (by decide) h36)
              refine j_iload_n dX13_readLook_94 rfl rfl ?_
              refine j_if_ne (tgt := 104) dX13_readLook_95 (by decide) (fun h95 => ?_) (fun h95 => absurd h95 (by decide))
              refine j_aload_n dX13_readLook_104 rfl rfl ?_
              refine cV13_118 (d1 := 2) rfl dX13_readLook_105 (by decide) (Nat.le_of_ble_eq_true rfl) ?_
              refine m_goes hX hB hz (by omega) (fun m1 l1 f1 z1 => ?_)
              refine j_iload_n dX13_readLook_108 rfl rfl ?_
              refine j_iret rfl dX13_readLook_109 ?_
              have hr0 : ¬ rq (fun k => decide (B k ≤ 100)) (tE B n p) (tA B n p) < tE B n p := fun q => by
                have h9 := rq_stop (fun k => decide (B k ≤ 100)) (tE B n p) (tA B n p) q
                have h9 : ¬ B (rq (fun k => decide (B k ≤ 100)) (tE B n p) (tA B n p)) ≤ 100 := of_decide_eq_false h9
                have h8 := rq_ge (fun k => decide (B k ≤ 100)) (tE B n p) (tA B n p)
                obtain ⟨d, hd⟩ : ∃ d, rq (fun k => decide (B k ≤ 100)) (tE B n p) (tA B n p) = (tA B n p) + d := ⟨rq (fun k => decide (B k ≤ 100)) (tE B n p) (tA B n p) - (tA B n p), by omega⟩
                rw [hd] at h9 q
                have : d = 0 ∨ d = 1 ∨ d = 2 := by omega
                rcases this with rfl | rfl | rfl <;> omega
              have hq : eb (.inr p) (pL B n 3 p |> fun z => fun _ => z) = .inr (tE B n p, lk B (tA B n p) 3) := by
                show pL B n 3 p = _
                unfold pL; rw [if_neg (fun q => q h1), if_neg (fun q => q hm), if_neg hr0, hm]
              have hq : pL B n 3 p = .inr (tE B n p, lk B (tA B n p) 3) := hq
              have hv9 : ((4 * (((4 * ((B ((tA B n p) + 0) - 96) - 1)) + (B ((tA B n p) + 1) - 96)) - 1)) + (B ((tA B n p) + 2) - 96)) - 1 = lk B (tA B n p) 3 := by simp only [lk, Nat.add_zero]; omega
              rw [hv9]
              refine hp _ m1 l1 f1 ?_ (fun q h => ?_)
              · show MZ m1 l1 B n (es Prod.fst (pL B n 3 p)); rw [hq]; exact z1
              · have h : pL B n 3 p = .inr q := h
                rw [hq] at h; cases h; rfl
      · have hq : eb (.inr p) (pL B n 3) = .inl (7, tA B n p) := by show pL B n 3 p = _; unfold pL; rw [if_neg (fun q => q h1), if_pos hm]
        rw [hq] at hp
        refine enter 4 (by decide) rfl rfl (fun X => ?_)
        refine j_aload_n dX13_readLook_0 rfl rfl ?_
        refine gI13_79 rfl dX13_readLook_1 ?_
        rw [hz.2.1.2.1, show sM (tS B n p) = 2 by rw [h1]; rfl]
        refine j_iconst (v := nI 2) dX13_readLook_4 (by decide) ?_
        refine j_icmp_eq (tgt := 13) dX13_readLook_5 (by decide) (fun h5 => ?_) (fun h5 => absurd (by decide) h5)
        refine j_iconst (v := nI 0) dX13_readLook_13 (by decide) ?_
        refine j_istore_n (lv2 := [_, _, _, _, _, _]) dX13_readLook_14 rfl (by decide) rfl rfl ?_
        refine j_aload_n dX13_readLook_15 rfl rfl ?_
        refine gI13_99 rfl dX13_readLook_16 ?_
        rw [(hz.2.1.2.2.2.1 h1).2]
        refine j_iload_n dX13_readLook_19 rfl rfl ?_
        refine j_icmp_ne (tgt := 27) dX13_readLook_20 (by decide) (fun h20 => ?_) (fun h20 => by exfalso; rw [nI_eq (by omega) (by decide)] at h20; exact hm h20)
        refine j_iconst (v := nI 0) dX13_readLook_27 (by decide) ?_
        refine j_istore_n (lv2 := [_, _, _, _, _, _]) dX13_readLook_28 rfl (by decide) rfl rfl ?_
        refine j_iload_n dX13_readLook_29 rfl rfl ?_
        refine j_iconst (v := nI 1) dX13_readLook_30 (by decide) ?_
        refine j_isub dX13_readLook_31 ?_
        rw [show nI 3 - nI 1 = nI 2 by decide]
        refine j_istore (lv2 := [_, _, _, _, _, _]) dX13_readLook_32 (by decide) rfl rfl ?_
        refine j_iload dX13_readLook_34 rfl ?_
        refine j_if_lt (tgt := 94) dX13_readLook_36 (by decide) (fun h36 => absurd h36 (by decide)) (fun h36 => ?_)
        refine j_aload_n dX13_readLook_39 rfl rfl ?_
        refine gI13_79 rfl dX13_readLook_40 ?_
        rw [hz.2.1.2.1, show sM (tS B n p) = 2 by rw [h1]; rfl]
        refine j_iconst (v := nI 2) dX13_readLook_43 (by decide) ?_
        refine j_icmp_ne (tgt := 94) dX13_readLook_44 (by decide) (fun h44 => absurd (by decide) h44) (fun h44 => ?_)
        refine j_iload_n dX13_readLook_47 rfl rfl ?_
        refine j_if_eq (tgt := 94) dX13_readLook_48 (by decide) (fun h48 => ?_) (fun h48 => absurd (by decide) h48)
        refine j_iload_n dX13_readLook_94 rfl rfl ?_
        refine j_if_ne (tgt := 104) dX13_readLook_95 (by decide) (fun h95 => absurd (by decide) h95) (fun h95 => ?_)
        refine j_aload_n dX13_readLook_98 rfl rfl ?_
        refine j_bipush (v := nI 7) dX13_readLook_99 (by decide) ?_
        refine cV13_125 (d1 := 1) rfl dX13_readLook_101 (by decide) (Nat.le_of_ble_eq_true rfl) ?_
        refine m_flawN (k := 7) hz (fun m1 f1 z1 => ?_)
        refine j_aload_n dX13_readLook_104 rfl rfl ?_
        refine cV13_118 (d1 := 2) rfl dX13_readLook_105 (by decide) (Nat.le_of_ble_eq_true rfl) ?_
        refine m_goesO z1.1 ?_
        refine j_iload_n dX13_readLook_108 rfl rfl ?_
        refine j_iret rfl dX13_readLook_109 ?_
        exact hp _ m1 ml f1 z1 (fun q h => by cases h)
    · have hq : eb (.inr p) (pL B n 3) = .inl (1, tA B n p) := by show pL B n 3 p = _; unfold pL; rw [if_pos h1]
      rw [hq] at hp
      have hk := sM_k (tS_le B n p) h1 (by decide)
      refine enter 4 (by decide) rfl rfl (fun X => ?_)
      refine j_aload_n dX13_readLook_0 rfl rfl ?_
      refine gI13_79 rfl dX13_readLook_1 ?_
      rw [hz.2.1.2.1]
      refine j_iconst (v := nI 2) dX13_readLook_4 (by decide) ?_
      refine j_icmp_eq (tgt := 13) dX13_readLook_5 (by decide) (fun h5 => by exfalso; rw [nI_eq (by omega) (by decide)] at h5; exact hk h5) (fun h5 => ?_)
      refine j_aload_n dX13_readLook_8 rfl rfl ?_
      refine j_iconst (v := nI 1) dX13_readLook_9 (by decide) ?_
      refine cV13_125 (d1 := 1) rfl dX13_readLook_10 (by decide) (Nat.le_of_ble_eq_true rfl) ?_
      refine m_flawN (k := 1) hz (fun m1 f1 z1 => ?_)
      refine j_iconst (v := nI 0) dX13_readLook_13 (by decide) ?_
      refine j_istore_n (lv2 := [_, _, _, _, _, _]) dX13_readLook_14 rfl (by decide) rfl rfl ?_
      refine j_aload_n dX13_readLook_15 rfl rfl ?_
      refine gI13_99 rfl dX13_readLook_16 ?_
      refine j_iload_n dX13_readLook_19 rfl rfl ?_
      refine j_icmp_ne (tgt := 27) dX13_readLook_20 (by decide) (fun h20 => ?_) (fun h20 => ?_)
      · refine j_iconst (v := nI 0) dX13_readLook_27 (by decide) ?_
        refine j_istore_n (lv2 := [_, _, _, _, _, _]) dX13_readLook_28 rfl (by decide) rfl rfl ?_
        refine j_iload_n dX13_readLook_29 rfl rfl ?_
        refine j_iconst (v := nI 1) dX13_readLook_30 (by decide) ?_
        refine j_isub dX13_readLook_31 ?_
        rw [show nI 3 - nI 1 = nI 2 by decide]
        refine j_istore (lv2 := [_, _, _, _, _, _]) dX13_readLook_32 (by decide) rfl rfl ?_
        refine j_iload dX13_readLook_34 rfl ?_
        refine j_if_lt (tgt := 94) dX13_readLook_36 (by decide) (fun h36 => absurd h36 (by decide)) (fun h36 => ?_)
        refine j_aload_n dX13_readLook_39 rfl rfl ?_
        refine gI13_79 rfl dX13_readLook_40 ?_
        rw [z1.1]
        refine j_iconst (v := nI 2) dX13_readLook_43 (by decide) ?_
        refine j_icmp_ne (tgt := 94) dX13_readLook_44 (by decide) (fun h44 => ?_) (fun h44 => absurd h44 (by decide))
        refine j_iload_n dX13_readLook_94 rfl rfl ?_
        refine j_if_ne (tgt := 104) dX13_readLook_95 (by decide) (fun h95 => absurd (by decide) h95) (fun h95 => ?_)
        refine j_aload_n dX13_readLook_98 rfl rfl ?_
        refine j_bipush (v := nI 7) dX13_readLook_99 (by decide) ?_
        refine cV13_125 (d1 := 1) rfl dX13_readLook_101 (by decide) (Nat.le_of_ble_eq_true rfl) ?_
        refine m_flawO z1.1 ?_
        refine j_aload_n dX13_readLook_104 rfl rfl ?_
        refine cV13_118 (d1 := 2) rfl dX13_readLook_105 (by decide) (Nat.le_of_ble_eq_true rfl) ?_
        refine m_goesO z1.1 ?_
        refine j_iload_n dX13_readLook_108 rfl rfl ?_
        refine j_iret rfl dX13_readLook_109 ?_
        exact hp _ m1 ml f1 z1 (fun q h => by cases h)
      · refine j_iconst (v := nI 1) dX13_readLook_23 (by decide) ?_
        refine j_goto (tgt := 28) dX13_readLook_24 (by decide) ?_
        refine j_istore_n (lv2 := [_, _, _, _, _, _]) dX13_readLook_28 rfl (by decide) rfl rfl ?_
        refine j_iload_n dX13_readLook_29 rfl rfl ?_
        refine j_iconst (v := nI 1) dX13_readLook_30 (by decide) ?_
        refine j_isub dX13_readLook_31 ?_
        rw [show nI 3 - nI 1 = nI 2 by decide]
        refine j_istore (lv2 := [_, _, _, _, _, _]) dX13_readLook_32 (by decide) rfl rfl ?_
        refine j_iload dX13_readLook_34 rfl ?_
        refine j_if_lt (tgt := 94) dX13_readLook_36 (by decide) (fun h36 => absurd h36 (by decide)) (fun h36 => ?_)
        refine j_aload_n dX13_readLook_39 rfl rfl ?_
        refine gI13_79 rfl dX13_readLook_40 ?_
        rw [z1.1]
        refine j_iconst (v := nI 2) dX13_readLook_43 (by decide) ?_
        refine j_icmp_ne (tgt := 94) dX13_readLook_44 (by decide) (fun h44 => ?_) (fun h44 => absurd h44 (by decide))
        refine j_iload_n dX13_readLook_94 rfl rfl ?_
        refine j_if_ne (tgt := 104) dX13_readLook_95 (by decide) (fun h95 => ?_) (fun h95 => absurd h95 (by decide))
        refine j_aload_n dX13_readLook_104 rfl rfl ?_
        refine cV13_118 (d1 := 2) rfl dX13_readLook_105 (by decide) (Nat.le_of_ble_eq_true rfl) ?_
        refine m_goesO z1.1 ?_
        refine j_iload_n dX13_readLook_108 rfl rfl ?_
        refine j_iret rfl dX13_readLook_109 ?_
        exact hp _ m1 ml f1 z1 (fun q h => by cases h)
theorem m_readLook2 {x : ER Nat} (hX : XM mr) (hB : RBM mi B n) (hz : MZ mi ml B n x) (hp : ∀ (v : Int32) m l, FG mi ml m l → MZ m l B n (es Prod.fst (eb x (pL B n 2))) → (∀ q, eb x (pL B n 2) = .inr q → v = nI q.2) → post (some (.int v)) m l mr dom) : CT G 3 0 0 yX13_readLook cX13_readLook 6 (some .int) [.ref 1000, .int (nI 2)] mi ml mr dom post := by
  cases x with
  | inl e =>
    refine enter 4 (by decide) rfl rfl (fun X => ?_)
    refine j_aload_n dX13_readLook_0 rfl rfl ?_
    refine gI13_79 rfl dX13_readLook_1 ?_
    rw [hz.1]
    refine j_iconst (v := nI 2) dX13_readLook_4 (by decide) ?_
    refine j_icmp_eq (tgt := 13) dX13_readLook_5 (by decide) (fun h5 => absurd h5 (by decide)) (fun h5 => ?_)
    refine j_aload_n dX13_readLook_8 rfl rfl ?_
    refine j_iconst (v := nI 1) dX13_readLook_9 (by decide) ?_
    refine cV13_125 (d1 := 1) rfl dX13_readLook_10 (by decide) (Nat.le_of_ble_eq_true rfl) ?_
    refine m_flawO hz.1 ?_
    refine j_iconst (v := nI 0) dX13_readLook_13 (by decide) ?_
    refine j_istore_n (lv2 := [_, _, _, _, _, _]) dX13_readLook_14 rfl (by decide) rfl rfl ?_
    refine j_aload_n dX13_readLook_15 rfl rfl ?_
    refine gI13_99 rfl dX13_readLook_16 ?_
    refine j_iload_n dX13_readLook_19 rfl rfl ?_
    refine j_icmp_ne (tgt := 27) dX13_readLook_20 (by decide) (fun h20 => ?_) (fun h20 => ?_)
    · refine j_iconst (v := nI 0) dX13_readLook_27 (by decide) ?_
      refine j_istore_n (lv2 := [_, _, _, _, _, _]) dX13_readLook_28 rfl (by decide) rfl rfl ?_
      refine j_iload_n dX13_readLook_29 rfl rfl ?_
      refine j_iconst (v := nI 1) dX13_readLook_30 (by decide) ?_
      refine j_isub dX13_readLook_31 ?_
      rw [show nI 2 - nI 1 = nI 1 by decide]
      refine j_istore (lv2 := [_, _, _, _, _, _]) dX13_readLook_32 (by decide) rfl rfl ?_
      refine j_iload dX13_readLook_34 rfl ?_
      refine j_if_lt (tgt := 94) dX13_readLook_36 (by decide) (fun h36 => absurd h36 (by decide)) (fun h36 => ?_)
      refine j_aload_n dX13_readLook_39 rfl rfl ?_
      refine gI13_79 rfl dX13_readLook_40 ?_
      rw [hz.1]
      refine j_iconst (v := nI 2) dX13_readLook_43 (by decide) ?_
      refine j_icmp_ne (tgt := 94) dX13_readLook_44 (by decide) (fun h44 => ?_) (fun h44 => absurd h44 (by decide))
      refine j_iload_n dX13_readLook_94 rfl rfl ?_
      refine j_if_ne (tgt := 104) dX13_readLook_95 (by decide) (fun h95 => absurd (by decide) h95) (fun h95 => ?_)
      refine j_aload_n dX13_readLook_98 rfl rfl ?_
      refine j_bipush (v := nI 7) dX13_readLook_99 (by decide) ?_
      refine cV13_125 (d1 := 1) rfl dX13_readLook_101 (by decide) (Nat.le_of_ble_eq_true rfl) ?_
      refine m_flawO hz.1 ?_
      refine j_aload_n dX13_readLook_104 rfl rfl ?_
      refine cV13_118 (d1 := 2) rfl dX13_readLook_105 (by decide) (Nat.le_of_ble_eq_true rfl) ?_
      refine m_goesO hz.1 ?_
      refine j_iload_n dX13_readLook_108 rfl rfl ?_
      refine j_iret rfl dX13_readLook_109 ?_
      exact hp _ mi ml (FG.rfl' mi ml) hz (fun q h => by cases h)
    · refine j_iconst (v := nI 1) dX13_readLook_23 (by decide) ?_
      refine j_goto (tgt := 28) dX13_readLook_24 (by decide) ?_
      refine j_istore_n (lv2 := [_, _, _, _, _, _]) dX13_readLook_28 rfl (by decide) rfl rfl ?_
      refine j_iload_n dX13_readLook_29 rfl rfl ?_
      refine j_iconst (v := nI 1) dX13_readLook_30 (by decide) ?_
      refine j_isub dX13_readLook_31 ?_
      rw [show nI 2 - nI 1 = nI 1 by decide]
      refine j_istore (lv2 := [_, _, _, _, _, _]) dX13_readLook_32 (by decide) rfl rfl ?_
      refine j_iload dX13_readLook_34 rfl ?_
      refine j_if_lt (tgt := 94) dX13_readLook_36 (by decide) (fun h36 => absurd h36 (by decide)) (fun h36 => ?_)
      refine j_aload_n dX13_readLook_39 rfl rfl ?_
      refine gI13_79 rfl dX13_readLook_40 ?_
      rw [hz.1]
      refine j_iconst (v := nI 2) dX13_readLook_43 (by decide) ?_
      refine j_icmp_ne (tgt := 94) dX13_readLook_44 (by decide) (fun h44 => ?_) (fun h44 => absurd h44 (by decide))
      refine j_iload_n dX13_readLook_94 rfl rfl ?_
      refine j_if_ne (tgt := 104) dX13_readLook_95 (by decide) (fun h95 => ?_) (fun h95 => absurd h95 (by decide))
      refine j_aload_n dX13_readLook_104 rfl rfl ?_
      refine cV13_118 (d1 := 2) rfl dX13_readLook_105 (by decide) (Nat.le_of_ble_eq_true rfl) ?_
      refine m_goesO hz.1 ?_
      refine j_iload_n dX13_readLook_108 rfl rfl ?_
      refine j_iret rfl dX13_readLook_109 ?_
      exact hp _ mi ml (FG.rfl' mi ml) hz (fun q h => by cases h)
  | inr p =>
    have h6 := sM_le (tS_le B n p)
    by_cases h1 : tS B n p = 1
    · have tk := tok_l h1
      have hge := tE_ge B n p
      have hle := tE_le B hz.1
      have hn := hB.2.1
      by_cases hm : tE B n p - tA B n p = 2
      · have lt : ∀ j, j < 2 → isL (B ((tA B n p) + j)) = true ∧ B ((tA B n p) + j) < 256 := fun j hj => ⟨(tk.2.1 _ (by omega) (by omega)).1, (hB.2.2 _ (tk.2.1 _ (by omega) (by omega)).2).2⟩
        have hwd : tH B n p = lN (wv B (tA B n p) 2) := by rw [tk.2.2.2, hm]; exact hv_wv B (tA B n p) 2 lt
        have b0 := isL_b (lt 0 (by decide)).1
        have b1 := isL_b (lt 1 (by decide)).1
        
        have eW : wv B (tA B n p) 2 = 32 * (32 * 0 + (B (tA B n p + 0) - 96)) + (B (tA B n p + 1) - 96) := rfl
        refine enter 4 (by decide) rfl rfl (fun X => ?_)
        refine j_aload_n dX13_readLook_0 rfl rfl ?_
        refine gI13_79 rfl dX13_readLook_1 ?_
        rw [hz.2.1.2.1, show sM (tS B n p) = 2 by rw [h1]; rfl]
        refine j_iconst (v := nI 2) dX13_readLook_4 (by decide) ?_
        refine j_icmp_eq (tgt := 13) dX13_readLook_5 (by decide) (fun h5 => ?_) (fun h5 => absurd (by decide) h5)
        refine j_iconst (v := nI 0) dX13_readLook_13 (by decide) ?_
        refine j_istore_n (lv2 := [_, _, _, _, _, _]) dX13_readLook_14 rfl (by decide) rfl rfl ?_
        refine j_aload_n dX13_readLook_15 rfl rfl ?_
        refine gI13_99 rfl dX13_readLook_16 ?_
        rw [(hz.2.1.2.2.2.1 h1).2, hm]
        refine j_iload_n dX13_readLook_19 rfl rfl ?_
        refine j_icmp_ne (tgt := 27) dX13_readLook_20 (by decide) (fun h20 => absurd (by decide) h20) (fun h20 => ?_)
        refine j_iconst (v := nI 1) dX13_readLook_23 (by decide) ?_
        refine j_goto (tgt := 28) dX13_readLook_24 (by decide) ?_
        refine j_istore_n (lv2 := [_, _, _, _, _, _]) dX13_readLook_28 rfl (by decide) rfl rfl ?_
        refine j_iload_n dX13_readLook_29 rfl rfl ?_
        refine j_iconst (v := nI 1) dX13_readLook_30 (by decide) ?_
        refine j_isub dX13_readLook_31 ?_
        rw [show nI 2 - nI 1 = nI 1 by decide]
        refine j_istore (lv2 := [_, _, _, _, _, _]) dX13_readLook_32 (by decide) rfl rfl ?_
        refine j_iload dX13_readLook_34 rfl ?_
        refine j_if_lt (tgt := 94) dX13_readLook_36 (by decide) (fun h36 => absurd h36 (by decide)) (fun h36 => ?_)
        refine j_aload_n dX13_readLook_39 rfl rfl ?_
        refine gI13_79 rfl dX13_readLook_40 ?_
        rw [hz.2.1.2.1, show sM (tS B n p) = 2 by rw [h1]; rfl]
        refine j_iconst (v := nI 2) dX13_readLook_43 (by decide) ?_
        refine j_icmp_ne (tgt := 94) dX13_readLook_44 (by decide) (fun h44 => absurd (by decide) h44) (fun h44 => ?_)
        refine j_iload_n dX13_readLook_47 rfl rfl ?_
        refine j_if_eq (tgt := 94) dX13_readLook_48 (by decide) (fun h48 => absurd h48 (by decide)) (fun h48 => ?_)
        refine j_aload_n dX13_readLook_51 rfl rfl ?_
        refine gL13_95 rfl dX13_readLook_52 ?_
        rw [(hz.2.1.2.2.2.1 h1).1, hwd]
        refine j_iconst (v := nI 5) dX13_readLook_55 (by decide) ?_
        refine j_iload dX13_readLook_56 rfl ?_
        refine j_imul dX13_readLook_58 ?_
        rw [show nI 5 * nI 1 = nI 5 by decide]
        refine j_lshr dX13_readLook_59 ?_
        refine j_ldc2 wd1705 dX13_readLook_60 ?_
        refine j_land dX13_readLook_63 ?_
        refine j_l2i dX13_readLook_64 ?_
        rw [shr5 _ (by omega), show wv B (tA B n p) 2 / 32 % 32 = B ((tA B n p) + 0) - 96 by omega]
        refine j_istore (lv2 := [_, _, _, _, _, _]) dX13_readLook_65 (by decide) rfl rfl ?_
        refine j_iload dX13_readLook_67 rfl ?_
        refine j_iconst (v := nI 4) dX13_readLook_69 (by decide) ?_
        refine j_icmp_gt (tgt := 77) dX13_readLook_70 (by decide) (fun h70 => ?_) (fun h70 => ?_)
        all_goals rw [nI_ltI (by omega) (by omega)] at h70
        · refine j_iconst (v := nI 0) dX13_readLook_77 (by decide) ?_
          refine j_istore_n (lv2 := [_, _, _, _, _, _]) dX13_readLook_78 rfl (by decide) rfl rfl ?_
          refine j_iconst (v := nI 4) dX13_readLook_79 (by decide) ?_
          refine j_iload_n dX13_readLook_80 rfl rfl ?_
          refine j_imul dX13_readLook_81 ?_
          rw [show nI 4 * nI 0 = nI 0 by decide]
          refine j_iload dX13_readLook_82 rfl ?_
          refine j_iadd dX13_readLook_84 ?_
          rw [show nI 0 + nI (B ((tA B n p) + 0) - 96) = nI (B ((tA B n p) + 0) - 96) by rw [nI_add, Nat.zero_add]]
          refine j_iconst (v := nI 1) dX13_readLook_85 (by decide) ?_
          refine j_isub dX13_readLook_86 ?_
          rw [pk_sub (by show 1 ≤ B ((tA B n p) + 0) - 96; omega)]
          refine j_istore_n (lv2 := [_, _, _, _, _, _]) dX13_readLook_87 rfl (by decide) rfl rfl ?_
          refine j_iincm (lv2 := [_, _, _, _, _, _]) dX13_readLook_88 rfl (by decide) rfl rfl ?_
          rw [show nI 1 - 1 = nI 0 from rfl]
          refine j_goto (tgt := 34) dX13_readLook_91 (by decide) ?_
          refine j_iload dX13_readLook_34 rfl ?_
          refine j_if_lt (tgt := 94) dX13_readLook_36 (by decide) (fun h36 => absurd h36 (by decide)) (fun h36 => ?_)
          refine j_aload_n dX13_readLook_39 rfl rfl ?_
          refine gI13_79 rfl dX13_readLook_40 ?_
          rw [hz.2.1.2.1, show sM (tS B n p) = 2 by rw [h1]; rfl]
          refine j_iconst (v := nI 2) dX13_readLook_43 (by decide) ?_
          refine j_icmp_ne (tgt := 94) dX13_readLook_44 (by decide) (fun h44 => absurd (by decide) h44) (fun h44 => ?_)
          refine j_iload_n dX13_readLook_47 rfl rfl ?_
          refine j_if_eq (tgt := 94) dX13_readLook_48 (by decide) (fun h48 => ?_) (fun h48 => absurd (by decide) h48)
          refine j_iload_n dX13_readLook_94 rfl rfl ?_
          refine j_if_ne (tgt := 104) dX13_readLook_95 (by decide) (fun h95 => absurd (by decide) h95) (fun h95 => ?_)
          refine j_aload_n dX13_readLook_98 rfl rfl ?_
          refine j_bipush (v := nI 7) dX13_readLook_99 (by decide) ?_
          refine cV13_125 (d1 := 1) rfl dX13_readLook_101 (by decide) (Nat.le_of_ble_eq_true rfl) ?_
          refine m_flawN (k := 7) hz (fun m1 f1 z1 => ?_)
          refine j_aload_n dX13_readLook_104 rfl rfl ?_
          refine cV13_118 (d1 := 2) rfl dX13_readLook_105 (by decide) (Nat.le_of_ble_eq_true rfl) ?_
          refine m_goesO z1.1 ?_
          refine j_iload_n dX13_readLook_108 rfl rfl ?_
          refine j_iret rfl dX13_readLook_109 ?_
          have hr0 : rq (fun k => decide (B k ≤ 100)) (tE B n p) (tA B n p) < tE B n p := by
            have h8 := rq_le (fun k => decide (B k ≤ 100)) (tE B n p) (tA B n p) (by omega)
            by_cases q : rq (fun k => decide (B k ≤ 100)) (tE B n p) (tA B n p) = tE B n p
            · exfalso
              have h9 : ∀ d, d < 2 → B ((tA B n p) + d) ≤ 100 := fun d hd => of_decide_eq_true (rq_in (fun k => decide (B k ≤ 100)) (tE B n p) (tA B n p) ((tA B n p) + d) (by omega) (by omega)).1
              have := h9 0 (by omega)
              have := h9 1 (by omega)
              simp only [Nat.add_zero] at *
              omega
            · omega
          have hq : pL B n 2 p = .inl (7, tA B n p) := by unfold pL; rw [if_neg (fun q => q h1), if_neg (fun q => q hm), if_pos hr0]
          refine hp _ m1 ml f1 ?_ (fun q h => ?_)
          · show MZ m1 ml B n (es Prod.fst (pL B n 2 p)); rw [hq]; exact z1
          · have h : pL B n 2 p = .inr q := h
            rw [hq] at h; cases h
        · refine j_iconst (v := nI 1) dX13_readLook_73 (by decide) ?_
          refine j_goto (tgt := 78) dX13_readLook_74 (by decide) ?_
          refine j_istore_n (lv2 := [_, _, _, _, _, _]) dX13_readLook_78 rfl (by decide) rfl rfl ?_
          refine j_iconst (v := nI 4) dX13_readLook_79 (by decide) ?_
          refine j_iload_n dX13_readLook_80 rfl rfl ?_
          refine j_imul dX13_readLook_81 ?_
          rw [show nI 4 * nI 0 = nI 0 by decide]
          refine j_iload dX13_readLook_82 rfl ?_
          refine j_iadd dX13_readLook_84 ?_
          rw [show nI 0 + nI (B ((tA B n p) + 0) - 96) = nI (B ((tA B n p) + 0) - 96) by rw [nI_add, Nat.zero_add]]
          refine j_iconst (v := nI 1) dX13_readLook_85 (by decide) ?_
          refine j_isub dX13_readLook_86 ?_
          rw [pk_sub (by show 1 ≤ B ((tA B n p) + 0) - 96; omega)]
          refine j_istore_n (lv2 := [_, _, _, _, _, _]) dX13_readLook_87 rfl (by decide) rfl rfl ?_
          refine j_iincm (lv2 := [_, _, _, _, _, _]) dX13_readLook_88 rfl (by decide) rfl rfl ?_
          rw [show nI 1 - 1 = nI 0 from rfl]
          refine j_goto (tgt := 34) dX13_readLook_91 (by decide) ?_
          refine j_iload dX13_readLook_34 rfl ?_
          refine j_if_lt (tgt := 94) dX13_readLook_36 (by decide) (fun h36 => absurd h36 (by decide)) (fun h36 => ?_)
          refine j_aload_n dX13_readLook_39 rfl rfl ?_
          refine gI13_79 rfl dX13_readLook_40 ?_
          rw [hz.2.1.2.1, show sM (tS B n p) = 2 by rw [h1]; rfl]
          refine j_iconst (v := nI 2) dX13_readLook_43 (by decide) ?_
          refine j_icmp_ne (tgt := 94) dX13_readLook_44 (by decide) (fun h44 => absurd (by decide) h44) (fun h44 => ?_)
          refine j_iload_n dX13_readLook_47 rfl rfl ?_
          refine j_if_eq (tgt := 94) dX13_readLook_48 (by decide) (fun h48 => absurd h48 (by decide)) (fun h48 => ?_)
          refine j_aload_n dX13_readLook_51 rfl rfl ?_
          refine gL13_95 rfl dX13_readLook_52 ?_
          rw [(hz.2.1.2.2.2.1 h1).1, hwd]
          refine j_iconst (v := nI 5) dX13_readLook_55 (by decide) ?_
          refine j_iload dX13_readLook_56 rfl ?_
          refine j_imul dX13_readLook_58 ?_
          rw [show nI 5 * nI 0 = nI 0 by decide]
          refine j_lshr dX13_readLook_59 ?_
          refine j_ldc2 wd1705 dX13_readLook_60 ?_
          refine j_land dX13_readLook_63 ?_
          refine j_l2i dX13_readLook_64 ?_
          rw [shr0 _ (by omega), show wv B (tA B n p) 2 % 32 = B ((tA B n p) + 1) - 96 by omega]
          refine j_istore (lv2 := [_, _, _, _, _, _]) dX13_readLook_65 (by decide) rfl rfl ?_
          refine j_iload dX13_readLook_67 rfl ?_
          refine j_iconst (v := nI 4) dX13_readLook_69 (by decide) ?_
          refine j_icmp_gt (tgt := 77) dX13_readLook_70 (by decide) (fun h70 => ?_) (fun h70 => ?_)
          all_goals rw [nI_ltI (by omega) (by omega)] at h70
          · refine j_iconst (v := nI 0) dX13_readLook_77 (by decide) ?_
            refine j_istore_n (lv2 := [_, _, _, _, _, _]) dX13_readLook_78 rfl (by decide) rfl rfl ?_
            refine j_iconst (v := nI 4) dX13_readLook_79 (by decide) ?_
            refine j_iload_n dX13_readLook_80 rfl rfl ?_
            refine j_imul dX13_readLook_81 ?_
            rw [pk_mul]
            refine j_iload dX13_readLook_82 rfl ?_
            refine j_iadd dX13_readLook_84 ?_
            rw [nI_add]
            refine j_iconst (v := nI 1) dX13_readLook_85 (by decide) ?_
            refine j_isub dX13_readLook_86 ?_
            rw [pk_sub (by show 1 ≤ (4 * ((B ((tA B n p) + 0) - 96) - 1)) + (B ((tA B n p) + 1) - 96); omega)]
            refine j_istore_n (lv2 := [_, _, _, _, _, _]) dX13_readLook_87 rfl (by decide) rfl rfl ?_
            refine j_iincm (lv2 := [_, _, _, _, _, _]) dX13_readLook_88 rfl (by decide) rfl rfl ?_
            rw [show nI 0 - 1 = (-1 : Int32) from rfl]
            refine j_goto (tgt := 34) dX13_readLook_91 (by decide) ?_
            refine j_iload dX13_readLook_34 rfl ?_
            refine j_if_lt (tgt := 94) dX13_readLook_36 (by decide) (fun h36 => ?_) (fun h36 => absurd (by decide) h36)
            refine j_iload_n dX13_readLook_94 rfl rfl ?_
            refine j_if_ne (tgt := 104) dX13_readLook_95 (by decide) (fun h95 => absurd (by decide) h95) (fun h95 => ?_)
            refine j_aload_n dX13_readLook_98 rfl rfl ?_
            refine j_bipush (v := nI 7) dX13_readLook_99 (by decide) ?_
            refine cV13_125 (d1 := 1) rfl dX13_readLook_101 (by decide) (Nat.le_of_ble_eq_true rfl) ?_
            refine m_flawN (k := 7) hz (fun m1 f1 z1 => ?_)
            refine j_aload_n dX13_readLook_104 rfl rfl ?_
            refine cV13_118 (d1 := 2) rfl dX13_readLook_105 (by decide) (Nat.le_of_ble_eq_true rfl) ?_
            refine m_goesO z1.1 ?_
            refine j_iload_n dX13_readLook_108 rfl rfl ?_
            refine j_iret rfl dX13_readLook_109 ?_
            have hr0 : rq (fun k => decide (B k ≤ 100)) (tE B n p) (tA B n p) < tE B n p := by
              have h8 := rq_le (fun k => decide (B k ≤ 100)) (tE B n p) (tA B n p) (by omega)
              by_cases q : rq (fun k => decide (B k ≤ 100)) (tE B n p) (tA B n p) = tE B n p
              · exfalso
                have h9 : ∀ d, d < 2 → B ((tA B n p) + d) ≤ 100 := fun d hd => of_decide_eq_true (rq_in (fun k => decide (B k ≤ 100)) (tE B n p) (tA B n p) ((tA B n p) + d) (by omega) (by omega)).1
                have := h9 0 (by omega)
                have := h9 1 (by omega)
                simp only [Nat.add_zero] at *
                omega
              · omega
            have hq : pL B n 2 p = .inl (7, tA B n p) := by unfold pL; rw [if_neg (fun q => q h1), if_neg (fun q => q hm), if_pos hr0]
            refine hp _ m1 ml f1 ?_ (fun q h => ?_)
            · show MZ m1 ml B n (es Prod.fst (pL B n 2 p)); rw [hq]; exact z1
            · have h : pL B n 2 p = .inr q := h
              rw [hq] at h; cases h
          · refine j_iconst (v := nI 1) dX13_readLook_73 (by decide) ?_
            refine j_goto (tgt := 78) dX13_readLook_74 (by decide) ?_
            refine j_istore_n (lv2 := [_, _, _, _, _, _]) dX13_readLook_78 rfl (by decide) rfl rfl ?_
            refine j_iconst (v := nI 4) dX13_readLook_79 (by decide) ?_
            refine j_iload_n dX13_readLook_80 rfl rfl ?_
            refine j_imul dX13_readLook_81 ?_
            rw [pk_mul]
            refine j_iload dX13_readLook_82 rfl ?_
            refine j_iadd dX13_readLook_84 ?_
            rw [nI_add]
            refine j_iconst (v := nI 1) dX13_readLook_85 (by decide) ?_
            refine j_isub dX13_readLook_86 ?_
            rw [pk_sub (by show 1 ≤ (4 * ((B ((tA B n p) + 0) - 96) - 1)) + (B ((tA B n p) + 1) - 96); omega)]
            refine j_istore_n (lv2 := [_, _, _, _, _, _]) dX13_readLook_87 rfl (by decide) rfl rfl ?_
            refine j_iincm (lv2 := [_, _, _, _, _, _]) dX13_readLook_88 rfl (by decide) rfl rfl ?_
            rw [show nI 0 - 1 = (-1 : Int32) from rfl]
            refine j_goto (tgt := 34) dX13_readLook_91 (by decide) ?_
            refine j_iload dX13_readLook_34 rfl ?_
            refine j_if_lt (tgt := 94) dX13_readLook_36 (by decide) (fun h36 => ?_) (fun h36 => absurd (by decide) h36)
            refine j_iload_n dX13_readLook_94 rfl rfl ?_
            refine j_if_ne (tgt := 104) dX13_readLook_95 (by decide) (fun h95 => ?_) (fun h95 => absurd h95 (by decide))
            refine j_aload_n dX13_readLook_104 rfl rfl ?_
            refine cV13_118 (d1 := 2) rfl dX13_readLook_105 (by decide) (Nat.le_of_ble_eq_true rfl) ?_
            refine m_goes hX hB hz (by omega) (fun m1 l1 f1 z1 => ?_)
            refine j_iload_n dX13_readLook_108 rfl rfl ?_
            refine j_iret rfl dX13_readLook_109 ?_
            have hr0 : ¬ rq (fun k => decide (B k ≤ 100)) (tE B n p) (tA B n p) < tE B n p := fun q => by
              have h9 := rq_stop (fun k => decide (B k ≤ 100)) (tE B n p) (tA B n p) q
              have h9 : ¬ B (rq (fun k => decide (B k ≤ 100)) (tE B n p) (tA B n p)) ≤ 100 := of_decide_eq_false h9
              have h8 := rq_ge (fun k => decide (B k ≤ 100)) (tE B n p) (tA B n p)
              obtain ⟨d, hd⟩ : ∃ d, rq (fun k => decide (B k ≤ 100)) (tE B n p) (tA B n p) = (tA B n p) + d := ⟨rq (fun k => decide (B k ≤ 100)) (tE B n p) (tA B n p) - (tA B n p), by omega⟩
              rw [hd] at h9 q
              have : d = 0 ∨ d = 1 := by omega
              rcases this with rfl | rfl <;> omega
            have hq : eb (.inr p) (pL B n 2 p |> fun z => fun _ => z) = .inr (tE B n p, lk B (tA B n p) 2) := by
              show pL B n 2 p = _
              unfold pL; rw [if_neg (fun q => q h1), if_neg (fun q => q hm), if_neg hr0, hm]
            have hq : pL B n 2 p = .inr (tE B n p, lk B (tA B n p) 2) := hq
            have hv9 : ((4 * ((B ((tA B n p) + 0) - 96) - 1)) + (B ((tA B n p) + 1) - 96)) - 1 = lk B (tA B n p) 2 := by simp only [lk, Nat.add_zero]; omega
            rw [hv9]
            refine hp _ m1 l1 f1 ?_ (fun q h => ?_)
            · show MZ m1 l1 B n (es Prod.fst (pL B n 2 p)); rw [hq]; exact z1
            · have h : pL B n 2 p = .inr q := h
              rw [hq] at h; cases h; rfl
      · have hq : eb (.inr p) (pL B n 2) = .inl (7, tA B n p) := by show pL B n 2 p = _; unfold pL; rw [if_neg (fun q => q h1), if_pos hm]
        rw [hq] at hp
        refine enter 4 (by decide) rfl rfl (fun X => ?_)
        refine j_aload_n dX13_readLook_0 rfl rfl ?_
        refine gI13_79 rfl dX13_readLook_1 ?_
        rw [hz.2.1.2.1, show sM (tS B n p) = 2 by rw [h1]; rfl]
        refine j_iconst (v := nI 2) dX13_readLook_4 (by decide) ?_
        refine j_icmp_eq (tgt := 13) dX13_readLook_5 (by decide) (fun h5 => ?_) (fun h5 => absurd (by decide) h5)
        refine j_iconst (v := nI 0) dX13_readLook_13 (by decide) ?_
        refine j_istore_n (lv2 := [_, _, _, _, _, _]) dX13_readLook_14 rfl (by decide) rfl rfl ?_
        refine j_aload_n dX13_readLook_15 rfl rfl ?_
        refine gI13_99 rfl dX13_readLook_16 ?_
        rw [(hz.2.1.2.2.2.1 h1).2]
        refine j_iload_n dX13_readLook_19 rfl rfl ?_
        refine j_icmp_ne (tgt := 27) dX13_readLook_20 (by decide) (fun h20 => ?_) (fun h20 => by exfalso; rw [nI_eq (by omega) (by decide)] at h20; exact hm h20)
        refine j_iconst (v := nI 0) dX13_readLook_27 (by decide) ?_
        refine j_istore_n (lv2 := [_, _, _, _, _, _]) dX13_readLook_28 rfl (by decide) rfl rfl ?_
        refine j_iload_n dX13_readLook_29 rfl rfl ?_
        refine j_iconst (v := nI 1) dX13_readLook_30 (by decide) ?_
        refine j_isub dX13_readLook_31 ?_
        rw [show nI 2 - nI 1 = nI 1 by decide]
        refine j_istore (lv2 := [_, _, _, _, _, _]) dX13_readLook_32 (by decide) rfl rfl ?_
        refine j_iload dX13_readLook_34 rfl ?_
        refine j_if_lt (tgt := 94) dX13_readLook_36 (by decide) (fun h36 => absurd h36 (by decide)) (fun h36 => ?_)
        refine j_aload_n dX13_readLook_39 rfl rfl ?_
        refine gI13_79 rfl dX13_readLook_40 ?_
        rw [hz.2.1.2.1, show sM (tS B n p) = 2 by rw [h1]; rfl]
        refine j_iconst (v := nI 2) dX13_readLook_43 (by decide) ?_
        refine j_icmp_ne (tgt := 94) dX13_readLook_44 (by decide) (fun h44 => absurd (by decide) h44) (fun h44 => ?_)
        refine j_iload_n dX13_readLook_47 rfl rfl ?_
        refine j_if_eq (tgt := 94) dX13_readLook_48 (by decide) (fun h48 => ?_) (fun h48 => absurd (by decide) h48)
        refine j_iload_n dX13_readLook_94 rfl rfl ?_
        refine j_if_ne (tgt := 104) dX13_readLook_95 (by decide) (fun h95 => absurd (by decide) h95) (fun h95 => ?_)
        refine j_aload_n dX13_readLook_98 rfl rfl ?_
        refine j_bipush (v := nI 7) dX13_readLook_99 (by decide) ?_
        refine cV13_125 (d1 := 1) rfl dX13_readLook_101 (by decide) (Nat.le_of_ble_eq_true rfl) ?_
        refine m_flawN (k := 7) hz (fun m1 f1 z1 => ?_)
        refine j_aload_n dX13_readLook_104 rfl rfl ?_
        refine cV13_118 (d1 := 2) rfl dX13_readLook_105 (by decide) (Nat.le_of_ble_eq_true rfl) ?_
        refine m_goesO z1.1 ?_
        refine j_iload_n dX13_readLook_108 rfl rfl ?_
        refine j_iret rfl dX13_readLook_109 ?_
        exact hp _ m1 ml f1 z1 (fun q h => by cases h)
    · have hq : eb (.inr p) (pL B n 2) = .inl (1, tA B n p) := by show pL B n 2 p = _; unfold pL; rw [if_pos h1]
      rw [hq] at hp
      have hk := sM_k (tS_le B n p) h1 (by decide)
      refine enter 4 (by decide) rfl rfl (fun X => ?_)
      refine j_aload_n dX13_readLook_0 rfl rfl ?_
      refine gI13_79 rfl dX13_readLook_1 ?_
      rw [hz.2.1.2.1]
      refine j_iconst (v := nI 2) dX13_readLook_4 (by decide) ?_
      refine j_icmp_eq (tgt := 13) dX13_readLook_5 (by decide) (fun h5 => by exfalso; rw [nI_eq (by omega) (by decide)] at h5; exact hk h5) (fun h5 => ?_)
      refine j_aload_n dX13_readLook_8 rfl rfl ?_
      refine j_iconst (v := nI 1) dX13_readLook_9 (by decide) ?_
      refine cV13_125 (d1 := 1) rfl dX13_readLook_10 (by decide) (Nat.le_of_ble_eq_true rfl) ?_
      refine m_flawN (k := 1) hz (fun m1 f1 z1 => ?_)
      refine j_iconst (v := nI 0) dX13_readLook_13 (by decide) ?_
      refine j_istore_n (lv2 := [_, _, _, _, _, _]) dX13_readLook_14 rfl (by decide) rfl rfl ?_
      refine j_aload_n dX13_readLook_15 rfl rfl ?_
      refine gI13_99 rfl dX13_readLook_16 ?_
      refine j_iload_n dX13_readLook_19 rfl rfl ?_
      refine j_icmp_ne (tgt := 27) dX13_readLook_20 (by decide) (fun h20 => ?_) (fun h20 => ?_)
      · refine j_iconst (v := nI 0) dX13_readLook_27 (by decide) ?_
        refine j_istore_n (lv2 := [_, _, _, _, _, _]) dX13_readLook_28 rfl (by decide) rfl rfl ?_
        refine j_iload_n dX13_readLook_29 rfl rfl ?_
        refine j_iconst (v := nI 1) dX13_readLook_30 (by decide) ?_
        refine j_isub dX13_readLook_31 ?_
        rw [show nI 2 - nI 1 = nI 1 by decide]
        refine j_istore (lv2 := [_, _, _, _, _, _]) dX13_readLook_32 (by decide) rfl rfl ?_
        refine j_iload dX13_readLook_34 rfl ?_
        refine j_if_lt (tgt := 94) dX13_readLook_36 (by decide) (fun h36 => absurd h36 (by decide)) (fun h36 => ?_)
        refine j_aload_n dX13_readLook_39 rfl rfl ?_
        refine gI13_79 rfl dX13_readLook_40 ?_
        rw [z1.1]
        refine j_iconst (v := nI 2) dX13_readLook_43 (by decide) ?_
        refine j_icmp_ne (tgt := 94) dX13_readLook_44 (by decide) (fun h44 => ?_) (fun h44 => absurd h44 (by decide))
        refine j_iload_n dX13_readLook_94 rfl rfl ?_
        refine j_if_ne (tgt := 104) dX13_readLook_95 (by decide) (fun h95 => absurd (by decide) h95) (fun h95 => ?_)
        refine j_aload_n dX13_readLook_98 rfl rfl ?_
        refine j_bipush (v := nI 7) dX13_readLook_99 (by decide) ?_
        refine cV13_125 (d1 := 1) rfl dX13_readLook_101 (by decide) (Nat.le_of_ble_eq_true rfl) ?_
        refine m_flawO z1.1 ?_
        refine j_aload_n dX13_readLook_104 rfl rfl ?_
        refine cV13_118 (d1 := 2) rfl dX13_readLook_105 (by decide) (Nat.le_of_ble_eq_true rfl) ?_
        refine m_goesO z1.1 ?_
        refine j_iload_n dX13_readLook_108 rfl rfl ?_
        refine j_iret rfl dX13_readLook_109 ?_
        exact hp _ m1 ml f1 z1 (fun q h => by cases h)
      · refine j_iconst (v := nI 1) dX13_readLook_23 (by decide) ?_
        refine j_goto (tgt := 28) dX13_readLook_24 (by decide) ?_
        refine j_istore_n (lv2 := [_, _, _, _, _, _]) dX13_readLook_28 rfl (by decide) rfl rfl ?_
        refine j_iload_n dX13_readLook_29 rfl rfl ?_
        refine j_iconst (v := nI 1) dX13_readLook_30 (by decide) ?_
        refine j_isub dX13_readLook_31 ?_
        rw [show nI 2 - nI 1 = nI 1 by decide]
        refine j_istore (lv2 := [_, _, _, _, _, _]) dX13_readLook_32 (by decide) rfl rfl ?_
        refine j_iload dX13_readLook_34 rfl ?_
        refine j_if_lt (tgt := 94) dX13_readLook_36 (by decide) (fun h36 => absurd h36 (by decide)) (fun h36 => ?_)
        refine j_aload_n dX13_readLook_39 rfl rfl ?_
        refine gI13_79 rfl dX13_readLook_40 ?_
        rw [z1.1]
        refine j_iconst (v := nI 2) dX13_readLook_43 (by decide) ?_
        refine j_icmp_ne (tgt := 94) dX13_readLook_44 (by decide) (fun h44 => ?_) (fun h44 => absurd h44 (by decide))
        refine j_iload_n dX13_readLook_94 rfl rfl ?_
        refine j_if_ne (tgt := 104) dX13_readLook_95 (by decide) (fun h95 => ?_) (fun h95 => absurd h95 (by decide))
        refine j_aload_n dX13_readLook_104 rfl rfl ?_
        refine cV13_118 (d1 := 2) rfl dX13_readLook_105 (by decide) (Nat.le_of_ble_eq_true rfl) ?_
        refine m_goesO z1.1 ?_
        refine j_iload_n dX13_readLook_108 rfl rfl ?_
        refine j_iret rfl dX13_readLook_109 ?_
        exact hp _ m1 ml f1 z1 (fun q h => by cases h)
theorem m_names {N : NS} {s k : Nat} {h : Int64} (hM : MM M) (hY : XT mr M) (hRd : mr 1000 4 = some M) (hN : RNM mi ml M N) (h17 : N.1 < 17) (hp : RNM (up (up (up mi (M + 18) N.1 (nI (smc s))) (M + 19) N.1 (nI k)) M 9 (nI (N.1 + 1))) (upl ml (M + 17) N.1 h) M (adN N h s k) → post none (up (up (up mi (M + 18) N.1 (nI (smc s))) (M + 19) N.1 (nI k)) M 9 (nI (N.1 + 1))) (upl ml (M + 17) N.1 h) mr dom) : CT G 1 0 0 yX13_names cX13_names 5 none [.ref 1000, .long h, .int (nI (smc s)), .int (nI k)] mi ml mr dom post := by
  have hge := hM.ge
  refine enter 0 (by decide) rfl rfl (fun X => ?_)
  refine j_aload_n dX13_names_0 rfl rfl ?_
  refine gR13_157 rfl dX13_names_1 hRd ?_
  refine gR13_174 (kM0 hM) dX13_names_4 (xM17 hY) ?_
  refine j_aload_n dX13_names_7 rfl rfl ?_
  refine gR13_157 rfl dX13_names_8 hRd ?_
  refine gI13_178 (kM0 hM) dX13_names_11 ?_
  rw [hN.2.1]
  refine j_lload_n dX13_names_14 rfl rfl ?_
  refine j_last (kM17 hM) (inT (lM17 hM) (show N.1 < 17 by omega) (by decide)) dX13_names_15 ?_
  rw [nI_clamp (by omega)]
  refine j_aload_n dX13_names_16 rfl rfl ?_
  refine gR13_157 rfl dX13_names_17 hRd ?_
  refine gR13_181 (kM0 hM) dX13_names_20 (xM18 hY) ?_
  refine j_aload_n dX13_names_23 rfl rfl ?_
  refine gR13_157 rfl dX13_names_24 hRd ?_
  refine gI13_178 (kM0 hM) dX13_names_27 ?_
  rw [hN.2.1]
  refine j_iload_n dX13_names_30 rfl rfl ?_
  refine j_iast (kM18 hM) (inT (lM18 hM) (show N.1 < 17 by omega) (by decide)) dX13_names_31 ?_
  rw [nI_clamp (by omega)]
  refine j_aload_n dX13_names_32 rfl rfl ?_
  refine gR13_157 rfl dX13_names_33 hRd ?_
  refine gR13_184 (kM0 hM) dX13_names_36 (xM19 hY) ?_
  refine j_aload_n dX13_names_39 rfl rfl ?_
  refine gR13_157 rfl dX13_names_40 hRd ?_
  refine gI13_178 (kM0 hM) dX13_names_43 ?_
  rw [up_off _ _ (by omega), hN.2.1]
  refine j_iload dX13_names_46 rfl ?_
  refine j_iast (kM19 hM) (inT (lM19 hM) (show N.1 < 17 by omega) (by decide)) dX13_names_48 ?_
  rw [nI_clamp (by omega)]
  refine j_aload_n dX13_names_49 rfl rfl ?_
  refine gR13_157 rfl dX13_names_50 hRd ?_
  refine j_dup dX13_names_53 rfl ?_
  refine gI13_178 (kM0 hM) dX13_names_54 ?_
  rw [up_off _ _ (by omega), up_off _ _ (by omega), hN.2.1]
  refine j_iconst (v := nI 1) dX13_names_57 (by decide) ?_
  refine j_iadd dX13_names_58 ?_
  rw [nI_add]
  refine pI13_178 (kM0 hM) dX13_names_59 ?_
  refine j_vret rfl dX13_names_62 ?_
  refine hp ⟨h17, up_at _ _ _ _, fun j hj => ?_⟩
  have hj2 : j < N.1 + 1 := hj
  by_cases q : j = N.1
  · subst q
    refine ⟨?_, ?_, ?_⟩
    · rw [upl_at]; simp [adN]
    · rw [up_off _ _ (by omega), up_off _ _ (by omega), up_at]; simp [adN]
    · rw [up_off _ _ (by omega), up_at]; simp [adN]
  · have h9 := hN.2.2 j (by omega)
    refine ⟨?_, ?_, ?_⟩
    · rw [upl_ne _ _ q, h9.1]; simp [adN, q]
    · rw [up_off _ _ (by omega), up_off _ _ (by omega), up_ne _ _ q, h9.2.1]; simp [adN, q]
    · rw [up_off _ _ (by omega), up_ne _ _ q, up_off _ _ (by omega), h9.2.2]; simp [adN, q]
end M13k
