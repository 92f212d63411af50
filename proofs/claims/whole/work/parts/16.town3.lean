/-! the class: Town.allUnlike, finesDrawn -/
section C9c
variable {G : GG} {post : PT} {mi : MI} {ml : ML} {mr : MR} {dom : List Nat} {T : Nat} {t : TW}
/-- no two people are alike in these marks -/
def unl (t : TW) (bits : Nat) : Bool := (List.range (t 0 5)).all fun p => (List.range (t 0 5)).all fun q => !(decide (p < q)) || !(like (mks t p) (mks t q) bits)
theorem unl_t {bits : Nat} (h : ∀ p, p < t 0 5 → ∀ q, q < t 0 5 → p < q → like (mks t p) (mks t q) bits = false) : unl t bits = true := by
  unfold unl
  rw [List.all_eq_true]; intro p hp
  rw [List.all_eq_true]; intro q hq
  by_cases hpq : p < q
  · rw [h p (List.mem_range.mp hp) q (List.mem_range.mp hq) hpq]; simp
  · simp [hpq]
theorem unl_f {bits p q : Nat} (hp : p < t 0 5) (hq : q < t 0 5) (hpq : p < q) (h : like (mks t p) (mks t q) bits = true) : unl t bits = false := by
  unfold unl
  rw [List.all_eq_false]
  refine ⟨p, List.mem_range.mpr hp, ?_⟩
  rw [Bool.not_eq_true, List.all_eq_false]
  exact ⟨q, List.mem_range.mpr hq, by simp [h, hpq]⟩
theorem c_allUnlike {bits : Nat} (hX : XR mr) (hT : TT T) (hW : WT t) (hR : RX mi T t) (hb : bits < 64) (hp : post (some (.int (nI (bN (unl t bits))))) mi ml mr dom) : CT G 2 0 0 yX9_allUnlike cX9_allUnlike 4 (some .boolean) [.ref T, .int (nI bits)] mi ml mr dom post := by
  have w := hW.1
  refine enter 2 (by decide) rfl rfl (fun X => ?_)
  refine j_iconst (v := 0) dX9_allUnlike_0 (by decide) ?_
  refine j_istore_n (lv2 := [_, _, _, _]) dX9_allUnlike_1 rfl (by decide) rfl rfl ?_
  skip
  refine lp (n := t 0 5) (Q := fun p => ∀ p2, p2 < p → ∀ q, q < t 0 5 → p2 < q → like (mks t p2) (mks t q) bits = false) (H := fun p => ∀ z3 : Option Value, J cX9_allUnlike 4 yX9_allUnlike.cls yX9_allUnlike.name (some .boolean) 2 G X post 0 0 mi ml mr dom 2 [some (.ref T), some (.int (nI bits)), some (.int (nI p)), z3] []) (fun hQ z3 => ?_) (fun p hp1 hQ ih0 z3 => ?_) (fun p2 h => absurd h (by omega)) none
  · rw [unl_t hQ] at hp
    refine j_iload_n dX9_allUnlike_2 rfl rfl ?_
    refine j_aload_n dX9_allUnlike_3 rfl rfl ?_
    refine gI9_28 (kT0 hT) dX9_allUnlike_4 ?_
    refine j_icmp_ge (tgt := 55) dX9_allUnlike_7 (by decide) (fun _ => ?_) (fun h7 => absurd (by rw [hR.people]; exact nI_le (Nat.le_refl _) (by omega)) h7)
    refine j_iconst (v := 1) dX9_allUnlike_55 (by decide) ?_
    refine j_zret rfl (by decide) dX9_allUnlike_56 ?_
    exact hp
  · have key : J cX9_allUnlike 4 yX9_allUnlike.cls yX9_allUnlike.name (some .boolean) 2 G X post 0 0 mi ml mr dom 14 [some (.ref T), some (.int (nI bits)), some (.int (nI p)), some (.int (nI (p + 1)))] [] := by
      refine lp (n := t 0 5 - (p + 1)) (Q := fun j => ∀ q, p < q → q < p + 1 + j → like (mks t p) (mks t q) bits = false) (H := fun j => J cX9_allUnlike 4 yX9_allUnlike.cls yX9_allUnlike.name (some .boolean) 2 G X post 0 0 mi ml mr dom 14 [some (.ref T), some (.int (nI bits)), some (.int (nI p)), some (.int (nI (p + 1 + j)))] []) (fun hq0 => ?_) (fun j hj hq0 ih => ?_) (fun q h1 h2 => absurd h1 (by omega))
      · skip
        refine j_iload_n dX9_allUnlike_14 rfl rfl ?_
        refine j_aload_n dX9_allUnlike_15 rfl rfl ?_
        refine gI9_28 (kT0 hT) dX9_allUnlike_16 ?_
        refine j_icmp_ge (tgt := 49) dX9_allUnlike_19 (by decide) (fun _ => ?_) (fun h19 => absurd (by rw [hR.people]; exact nI_le (by omega) (by omega)) h19)
        refine j_iinc1 (lv2 := [_, _, _, _]) dX9_allUnlike_49 rfl (by decide) rfl rfl ?_
        refine j_goto (tgt := 2) dX9_allUnlike_52 (by decide) ?_
        rw [nI_1]
        refine ih0 ?_ _
        intro p2 h1 q2 h2 h3
        by_cases hh : p2 = p
        · subst hh; exact hq0 q2 h3 (by omega)
        · exact hQ p2 (by omega) q2 h2 h3
      · obtain ⟨q, hqe⟩ : ∃ q, p + 1 + j = q := ⟨_, rfl⟩
        have hq : q < t 0 5 := by omega
        have P1 := pv hX hT hW hR hp1
        have P2 := pv hX hT hW hR hq
        rw [show p + 1 + (j + 1) = q + 1 by omega] at ih
        rw [hqe]
        refine j_iload_n dX9_allUnlike_14 rfl rfl ?_
        refine j_aload_n dX9_allUnlike_15 rfl rfl ?_
        refine gI9_28 (kT0 hT) dX9_allUnlike_16 ?_
        refine j_icmp_ge (tgt := 49) dX9_allUnlike_19 (by decide) (fun h19 => absurd (by rw [hR.people] at h19; exact h19) (nI_ge hq (by omega))) (fun _ => ?_)
        refine j_aload_n dX9_allUnlike_22 rfl rfl ?_
        refine gR9_53 (kT0 hT) dX9_allUnlike_23 (xT_persons hX hT) ?_
        refine j_iload_n dX9_allUnlike_26 rfl rfl ?_
        refine j_aald (C := RX3) (kT5 hT) (by decide) (fun _ => rfl) (inT (lT5 hT) (show p < 6 by omega) (by omega)) (mr_nI (by omega) (xT_p hX hT (show p < 6 by omega))) dX9_allUnlike_27 (by decide) ?_
        refine j_aload_n dX9_allUnlike_28 rfl rfl ?_
        refine gR9_53 (kT0 hT) dX9_allUnlike_29 (xT_persons hX hT) ?_
        refine j_iload_n dX9_allUnlike_32 rfl rfl ?_
        refine j_aald (C := RX3) (kT5 hT) (by decide) (fun _ => rfl) (inT (lT5 hT) (show q < 6 by omega) (by omega)) (mr_nI (by omega) (xT_p hX hT (show q < 6 by omega))) dX9_allUnlike_33 (by decide) ?_
        refine j_iload_n dX9_allUnlike_34 rfl rfl ?_
        refine cV9_106 (d1 := 1) (kP hT (show p < 6 by omega)) dX9_allUnlike_35 (by decide) (Nat.le_of_ble_eq_true rfl) ?_
        refine c_isLike (m := mks t p) (m2 := mks t q) P1.1 P1.2.1 P1.2.2.1 P1.2.2.2.1 P1.2.2.2.2.2.2.1 (fun i hi => by have := P1.2.2.2.2.2.2.2.2.2 i hi; omega) P2.1 P2.2.1 P2.2.2.1 P2.2.2.2.1 P2.2.2.2.2.2.2.1 (fun i hi => by have := P2.2.2.2.2.2.2.2.2.2 i hi; omega) hb ?_
        refine j_if_eq (tgt := 43) dX9_allUnlike_38 (by decide) (fun h38 => ?_) (fun h38 => ?_)
        · refine j_iinc1 (lv2 := [_, _, _, _]) dX9_allUnlike_43 rfl (by decide) rfl rfl ?_
          refine j_goto (tgt := 14) dX9_allUnlike_46 (by decide) ?_
          rw [nI_1]
          refine ih ?_
          rw [bN_eq0] at h38
          intro q2 h1 h2
          by_cases hh : q2 = q
          · subst hh; exact h38
          · exact hq0 q2 h1 (by omega)
        · refine j_iconst (v := 0) dX9_allUnlike_41 (by decide) ?_
          refine j_zret rfl (by decide) dX9_allUnlike_42 ?_
          rw [bN_eq0, Bool.not_eq_false] at h38
          rw [unl_f hp1 hq (by omega) h38] at hp
          exact hp
    refine j_iload_n dX9_allUnlike_2 rfl rfl ?_
    refine j_aload_n dX9_allUnlike_3 rfl rfl ?_
    refine gI9_28 (kT0 hT) dX9_allUnlike_4 ?_
    refine j_icmp_ge (tgt := 55) dX9_allUnlike_7 (by decide) (fun h7 => absurd (by rw [hR.people] at h7; exact h7) (nI_ge hp1 (by omega))) (fun _ => ?_)
    refine j_iload_n dX9_allUnlike_10 rfl rfl ?_
    refine j_iconst (v := 1) dX9_allUnlike_11 (by decide) ?_
    refine j_iadd dX9_allUnlike_12 ?_
    refine j_istore_n (lv2 := [_, _, _, _]) dX9_allUnlike_13 rfl (by decide) rfl rfl ?_
    rw [nI_1]
    exact key
def dwn (s : Nat) : Nat → Nat
  | 0 => s
  | i + 1 => nxs (nxs (dwn s i))
def whoI : Option Nat → Int32
  | none => -1
  | some p => nI p
def fdT (t : TW) (who : Option Nat) (d : Nat) : Nat := if who = none ∨ who = some (nxs d % t 0 5) then fineO (t 4 (nxs d % t 0 5)) (t 6 (nxs d % t 0 5)) (t 1 (nxs (nxs d) % t 0 3)) true else 0
def fdr (t : TW) (who : Option Nat) (s : Nat) (n : Nat) : Nat := sm (fun i => fdT t who (dwn s i)) n
theorem dwn_le {s : Nat} (hs : s ≤ 65536) : ∀ i, dwn s i ≤ 65536 := by
  intro i
  cases i with
  | zero => exact hs
  | succ i => have := nxs_lt (nxs (dwn s i)); rw [dwn]; omega
theorem c_finesDrawn {who : Option Nat} {s n : Nat} (hX : XR mr) (hT : TT T) (hW : WT t) (hL : LT t) (hR : RX mi T t) (hs : s ≤ 65536) (hn : n ≤ 20) (hw1 : ∀ w0, who = some w0 → ¬ nI w0 = -1) (hw2 : ∀ w0, who = some w0 → w0 < 2 ^ 31) (hp : post (some (.int (nI (fdr t who s (n * (t 0 1 - t 0 0)))))) mi ml mr dom) : CT G 3 0 0 yX9_finesDrawn cX9_finesDrawn 10 (some .int) [.ref T, .int (whoI who), .int (nI s), .int (nI n)] mi ml mr dom post := by
  have w := hW.1
  obtain ⟨l1, l2, l3, l4, l5, -⟩ := hL
  have hbd : n * (t 0 1 - t 0 0) ≤ 20 * 22 := Nat.mul_le_mul hn (by omega)
  refine enter 6 (by decide) rfl rfl (fun X => ?_)
  refine j_aload_n dX9_finesDrawn_0 rfl rfl ?_
  refine gI9_28 (kT0 hT) dX9_finesDrawn_1 ?_
  refine j_iconst (v := 1) dX9_finesDrawn_4 (by decide) ?_
  refine j_icmp_lt (tgt := 16) dX9_finesDrawn_5 (by decide) (fun h5 => absurd (by rw [hR.people] at h5; exact h5) (nI_nlt (b := 1) (by omega) (by omega))) (fun _ => ?_)
  refine j_aload_n dX9_finesDrawn_8 rfl rfl ?_
  refine gI9_25 (kT0 hT) dX9_finesDrawn_9 ?_
  refine j_iconst (v := 1) dX9_finesDrawn_12 (by decide) ?_
  refine j_icmp_ge (tgt := 18) dX9_finesDrawn_13 (by decide) (fun _ => ?_) (fun h13 => absurd (by rw [hR.houses]; exact nI_le (a := 1) (by omega) (by omega)) h13)
  refine j_iconst (v := 0) dX9_finesDrawn_18 (by decide) ?_
  refine j_istore (lv2 := [_, _, _, _, _, _, _, _, _, _]) dX9_finesDrawn_19 (by decide) rfl rfl ?_
  refine j_iload_n dX9_finesDrawn_21 rfl rfl ?_
  refine j_istore (lv2 := [_, _, _, _, _, _, _, _, _, _]) dX9_finesDrawn_22 (by decide) rfl rfl ?_
  refine j_iload_n dX9_finesDrawn_24 rfl rfl ?_
  refine j_aload_n dX9_finesDrawn_25 rfl rfl ?_
  refine gI9_19 (kT0 hT) dX9_finesDrawn_26 ?_
  refine j_aload_n dX9_finesDrawn_29 rfl rfl ?_
  refine gI9_15 (kT0 hT) dX9_finesDrawn_30 ?_
  refine j_isub dX9_finesDrawn_33 ?_
  refine j_imul dX9_finesDrawn_34 ?_
  rw [hR.dusk, hR.dawn, pk_sub (by omega), pk_mul]
  refine j_istore (lv2 := [_, _, _, _, _, _, _, _, _, _]) dX9_finesDrawn_35 (by decide) rfl rfl ?_
  refine j_iconst (v := 0) dX9_finesDrawn_37 (by decide) ?_
  refine j_istore (lv2 := [_, _, _, _, _, _, _, _, _, _]) dX9_finesDrawn_38 (by decide) rfl rfl ?_
  skip
  refine lq (n := n * (t 0 1 - t 0 0)) (H := fun i => ∀ z8 z9 : Option Value, J cX9_finesDrawn 10 yX9_finesDrawn.cls yX9_finesDrawn.name (some .int) 3 G X post 0 0 mi ml mr dom 40 [some (.ref T), some (.int (whoI who)), some (.int (nI s)), some (.int (nI n)), some (.int (nI (fdr t who s i))), some (.int (nI (dwn s i))), some (.int (nI (n * (t 0 1 - t 0 0)))), some (.int (nI i)), z8, z9] []) (fun z8 z9 => ?_) (fun i hi ih z8 z9 => ?_) none none
  · skip
    refine j_iload dX9_finesDrawn_40 rfl ?_
    refine j_iload dX9_finesDrawn_42 rfl ?_
    refine j_icmp_ge (tgt := 119) dX9_finesDrawn_44 (by decide) (fun _ => ?_) (fun h44 => absurd (nI_le (Nat.le_refl _) (by omega)) h44)
    refine j_iload dX9_finesDrawn_119 rfl ?_
    refine j_iret rfl dX9_finesDrawn_121 ?_
    exact hp
  · obtain ⟨p, hpe⟩ : ∃ p, nxs (dwn s i) % t 0 5 = p := ⟨_, rfl⟩
    obtain ⟨h, hhe⟩ : ∃ h, nxs (nxs (dwn s i)) % t 0 3 = h := ⟨_, rfl⟩
    have hp1 : p < t 0 5 := by rw [← hpe]; exact Nat.mod_lt _ (by omega)
    have hh1 : h < t 0 3 := by rw [← hhe]; exact Nat.mod_lt _ (by omega)
    have hx1 := nxs_lt (dwn s i)
    have hx2 := nxs_lt (nxs (dwn s i))
    have P1 := pv hX hT hW hR hp1
    refine j_iload dX9_finesDrawn_40 rfl ?_
    refine j_iload dX9_finesDrawn_42 rfl ?_
    refine j_icmp_ge (tgt := 119) dX9_finesDrawn_44 (by decide) (fun h44 => absurd h44 (nI_ge hi (by omega))) (fun _ => ?_)
    refine j_iload dX9_finesDrawn_47 rfl ?_
    refine cS9_139 (d1 := 1) dX9_finesDrawn_49 (by decide) (Nat.le_of_ble_eq_true rfl) ?_
    refine c_nextSeed (dwn_le hs i) ?_
    refine j_istore (lv2 := [_, _, _, _, _, _, _, _, _, _]) dX9_finesDrawn_52 (by decide) rfl rfl ?_
    refine j_iload dX9_finesDrawn_54 rfl ?_
    refine j_aload_n dX9_finesDrawn_56 rfl rfl ?_
    refine gI9_28 (kT0 hT) dX9_finesDrawn_57 ?_
    refine j_irem dX9_finesDrawn_60 (by rw [hR.people]; exact nI_ne0 (by omega) (by omega)) ?_
    rw [hR.people, pk_rem (by omega) (by omega) (by omega), hpe]
    refine j_istore (lv2 := [_, _, _, _, _, _, _, _, _, _]) dX9_finesDrawn_61 (by decide) rfl rfl ?_
    refine j_iload dX9_finesDrawn_63 rfl ?_
    refine cS9_139 (d1 := 1) dX9_finesDrawn_65 (by decide) (Nat.le_of_ble_eq_true rfl) ?_
    refine c_nextSeed (by have := nxs_lt (dwn s i); omega) ?_
    refine j_istore (lv2 := [_, _, _, _, _, _, _, _, _, _]) dX9_finesDrawn_68 (by decide) rfl rfl ?_
    refine j_iload dX9_finesDrawn_70 rfl ?_
    refine j_aload_n dX9_finesDrawn_72 rfl rfl ?_
    refine gI9_25 (kT0 hT) dX9_finesDrawn_73 ?_
    refine j_irem dX9_finesDrawn_76 (by rw [hR.houses]; exact nI_ne0 (by omega) (by omega)) ?_
    rw [hR.houses, pk_rem (by omega) (by omega) (by omega), hhe]
    refine j_istore (lv2 := [_, _, _, _, _, _, _, _, _, _]) dX9_finesDrawn_77 (by decide) rfl rfl ?_
    refine j_iload_n dX9_finesDrawn_79 rfl rfl ?_
    refine j_iconst (v := -1) dX9_finesDrawn_80 (by decide) ?_
    refine j_icmp_eq (tgt := 90) dX9_finesDrawn_81 (by decide) (fun h81 => ?_) (fun h81 => ?_)
    · refine j_iload dX9_finesDrawn_90 rfl ?_
      refine j_aload_n dX9_finesDrawn_92 rfl rfl ?_
      refine gR9_53 (kT0 hT) dX9_finesDrawn_93 (xT_persons hX hT) ?_
      refine j_iload dX9_finesDrawn_96 rfl ?_
      refine j_aald (C := RX3) (kT5 hT) (by decide) (fun _ => rfl) (inT (lT5 hT) (show p < 6 by omega) (by omega)) (mr_nI (by omega) (xT_p hX hT (show p < 6 by omega))) dX9_finesDrawn_98 (by decide) ?_
      refine j_aload_n dX9_finesDrawn_99 rfl rfl ?_
      refine gR9_40 (kT0 hT) dX9_finesDrawn_100 (xT_sills hX hT) ?_
      refine j_iload dX9_finesDrawn_103 rfl ?_
      refine j_iald (kT1 hT) (inT (lT1 hT) (show h < 6 by omega) (by omega)) dX9_finesDrawn_105 ?_
      rw [nI_clamp (by omega), hR.sill hh1]
      refine j_iconst (v := 1) dX9_finesDrawn_106 (by decide) ?_
      refine cV9_133 (d1 := 2) (kP hT (show p < 6 by omega)) dX9_finesDrawn_107 (by decide) (Nat.le_of_ble_eq_true rfl) ?_
      rw [show (1 : Int32) = nI (bN true) from rfl]
      refine c_fineOver P1.1 P1.2.2.2.2.1 P1.2.2.2.2.2.1 (by have := P1.2.2.2.2.2.2.2.1; omega) (by have := P1.2.2.2.2.2.2.2.2.1; omega) (by have := hW.si hh1; omega) ?_
      refine j_iadd dX9_finesDrawn_110 ?_
      refine j_istore (lv2 := [_, _, _, _, _, _, _, _, _, _]) dX9_finesDrawn_111 (by decide) rfl rfl ?_
      refine j_iinc1 (lv2 := [_, _, _, _, _, _, _, _, _, _]) dX9_finesDrawn_113 rfl (by decide) rfl rfl ?_
      refine j_goto (tgt := 40) dX9_finesDrawn_116 (by decide) ?_
      rw [nI_1]
      first
        | (rw [nI_add]
           have e9 : fdr t who s i + fineO (t 4 p) (t 6 p) (t 1 h) true = fdr t who s (i + 1) := by
             show _ = sm _ (i + 1)
             rw [sm]
             show _ = fdr t who s i + fdT t who (dwn s i)
             rw [fdT, hpe, hhe, if_pos (by rcases who with _ | w0
                                           · exact Or.inl rfl
                                           · right; first
                                               | (exact absurd h81 (show ¬ nI w0 = -1 from hw1 w0 rfl))
                                               | (have h8 : nI w0 = nI p := h87
                                                  rw [(nI_eq (hw2 w0 rfl) (by omega)).mp h8]))]
           rw [e9]
           exact ih _ _)
        | (have e9 : fdr t who s i = fdr t who s (i + 1) := by
             show _ = sm _ (i + 1)
             rw [sm]
             show _ = fdr t who s i + fdT t who (dwn s i)
             rw [fdT, hpe, hhe, if_neg (by
               rintro (q | q)
               · rw [q] at h81; exact h81 rfl
               · rw [q] at h87; exact h87 rfl)]
             rfl
           rw [e9]
           exact ih _ _)
    · refine j_iload_n dX9_finesDrawn_84 rfl rfl ?_
      refine j_iload dX9_finesDrawn_85 rfl ?_
      refine j_icmp_ne (tgt := 113) dX9_finesDrawn_87 (by decide) (fun h87 => ?_) (fun h87 => ?_)
      · refine j_iinc1 (lv2 := [_, _, _, _, _, _, _, _, _, _]) dX9_finesDrawn_113 rfl (by decide) rfl rfl ?_
        refine j_goto (tgt := 40) dX9_finesDrawn_116 (by decide) ?_
        rw [nI_1]
        first
          | (rw [nI_add]
             have e9 : fdr t who s i + fineO (t 4 p) (t 6 p) (t 1 h) true = fdr t who s (i + 1) := by
               show _ = sm _ (i + 1)
               rw [sm]
               show _ = fdr t who s i + fdT t who (dwn s i)
               rw [fdT, hpe, hhe, if_pos (by rcases who with _ | w0
                                             · exact Or.inl rfl
                                             · right; first
                                                 | (exact absurd h81 (show ¬ nI w0 = -1 from hw1 w0 rfl))
                                                 | (have h8 : nI w0 = nI p := h87
                                                    rw [(nI_eq (hw2 w0 rfl) (by omega)).mp h8]))]
             rw [e9]
             exact ih _ _)
          | (have e9 : fdr t who s i = fdr t who s (i + 1) := by
               show _ = sm _ (i + 1)
               rw [sm]
               show _ = fdr t who s i + fdT t who (dwn s i)
               rw [fdT, hpe, hhe, if_neg (by
                 rintro (q | q)
                 · rw [q] at h81; exact h81 rfl
                 · rw [q] at h87; exact h87 rfl)]
               rfl
             rw [e9]
             exact ih _ _)
      · refine j_iload dX9_finesDrawn_90 rfl ?_
        refine j_aload_n dX9_finesDrawn_92 rfl rfl ?_
        refine gR9_53 (kT0 hT) dX9_finesDrawn_93 (xT_persons hX hT) ?_
        refine j_iload dX9_finesDrawn_96 rfl ?_
        refine j_aald (C := RX3) (kT5 hT) (by decide) (fun _ => rfl) (inT (lT5 hT) (show p < 6 by omega) (by omega)) (mr_nI (by omega) (xT_p hX hT (show p < 6 by omega))) dX9_finesDrawn_98 (by decide) ?_
        refine j_aload_n dX9_finesDrawn_99 rfl rfl ?_
        refine gR9_40 (kT0 hT) dX9_finesDrawn_100 (xT_sills hX hT) ?_
        refine j_iload dX9_finesDrawn_103 rfl ?_
        refine j_iald (kT1 hT) (inT (lT1 hT) (show h < 6 by omega) (by omega)) dX9_finesDrawn_105 ?_
        rw [nI_clamp (by omega), hR.sill hh1]
        refine j_iconst (v := 1) dX9_finesDrawn_106 (by decide) ?_
        refine cV9_133 (d1 := 2) (kP hT (show p < 6 by omega)) dX9_finesDrawn_107 (by decide) (Nat.le_of_ble_eq_true rfl) ?_
        rw [show (1 : Int32) = nI (bN true) from rfl]
        refine c_fineOver P1.1 P1.2.2.2.2.1 P1.2.2.2.2.2.1 (by have := P1.2.2.2.2.2.2.2.1; omega) (by have := P1.2.2.2.2.2.2.2.2.1; omega) (by have := hW.si hh1; omega) ?_
        refine j_iadd dX9_finesDrawn_110 ?_
        refine j_istore (lv2 := [_, _, _, _, _, _, _, _, _, _]) dX9_finesDrawn_111 (by decide) rfl rfl ?_
        refine j_iinc1 (lv2 := [_, _, _, _, _, _, _, _, _, _]) dX9_finesDrawn_113 rfl (by decide) rfl rfl ?_
        refine j_goto (tgt := 40) dX9_finesDrawn_116 (by decide) ?_
        rw [nI_1]
        first
          | (rw [nI_add]
             have e9 : fdr t who s i + fineO (t 4 p) (t 6 p) (t 1 h) true = fdr t who s (i + 1) := by
               show _ = sm _ (i + 1)
               rw [sm]
               show _ = fdr t who s i + fdT t who (dwn s i)
               rw [fdT, hpe, hhe, if_pos (by rcases who with _ | w0
                                             · exact Or.inl rfl
                                             · right; first
                                                 | (exact absurd h81 (show ¬ nI w0 = -1 from hw1 w0 rfl))
                                                 | (have h8 : nI w0 = nI p := h87
                                                    rw [(nI_eq (hw2 w0 rfl) (by omega)).mp h8]))]
             rw [e9]
             exact ih _ _)
          | (have e9 : fdr t who s i = fdr t who s (i + 1) := by
               show _ = sm _ (i + 1)
               rw [sm]
               show _ = fdr t who s i + fdT t who (dwn s i)
               rw [fdT, hpe, hhe, if_neg (by
                 rintro (q | q)
                 · rw [q] at h81; exact h81 rfl
                 · rw [q] at h87; exact h87 rfl)]
               rfl
             rw [e9]
             exact ih _ _)
end C9c
