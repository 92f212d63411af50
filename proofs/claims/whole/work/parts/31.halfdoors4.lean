/-! the class: HalfDoors, the other questions -/
section C11d
variable {G : GG} {post : PT} {mi : MI} {ml : ML} {mr : MR} {dom : List Nat} {T : Nat} {t : TW} {v : Nat → Nat}
def bsF (t : TW) (h : Nat) (s : Int32 × Nat) : Int32 × Nat := if s.2 < cnt (fun k => decide (t 13 k = h)) (t 0 7) then (nI h, cnt (fun k => decide (t 13 k = h)) (t 0 7)) else s
def bsy (t : TW) : Int32 := (fu (bsF t) 24 (-2, 0)).1
theorem cx_busiest (hX : XR mr) (hT : TT T) (hTn : mr 0 2 = some T) (hW : WT t) (hR : RX mi T t) (h0 : mi T 0 = 1) (hp : post (some (.int (bsy t))) (up mi 0 9 0) ml mr dom) : CT G 3 0 0 yX11_busiest cX11_busiest 5 (some .int) [.ref 0] mi ml mr dom post := by
  have w := hW.1
  refine enter 4 (by decide) rfl rfl (fun X => ?_)
  refine j_aload_n dX11_busiest_0 rfl rfl ?_
  refine gR11_20 rfl dX11_busiest_1 hTn ?_
  refine gI11_178 (kT0 hT) dX11_busiest_4 ?_
  refine j_if_ne (tgt := 16) dX11_busiest_7 (by decide) (fun _ => ?_) (fun h7 => absurd h7 (by rw [h0]; decide))
  refine j_bipush (v := -2) dX11_busiest_16 (by decide) ?_
  refine j_istore_n (lv2 := [_, _, _, _, _]) dX11_busiest_18 rfl (by decide) rfl rfl ?_
  refine j_iconst (v := 0) dX11_busiest_19 (by decide) ?_
  refine j_istore_n (lv2 := [_, _, _, _, _]) dX11_busiest_20 rfl (by decide) rfl rfl ?_
  refine j_iconst (v := 0) dX11_busiest_21 (by decide) ?_
  refine j_istore_n (lv2 := [_, _, _, _, _]) dX11_busiest_22 rfl (by decide) rfl rfl ?_
  skip
  refine fl (σ := Int32 × Nat) (n := 24) (s0 := (-2, 0)) (I := fun s => s.2 ≤ 8) (F := bsF t) (H := fun (h : Nat) (s : Int32 × Nat) => ∀ z4 : Option Value, J cX11_busiest 5 yX11_busiest.cls yX11_busiest.name (some .int) 3 G X post 0 0 mi ml mr dom 23 [some (.ref 0), some (.int s.1), some (.int (nI s.2)), some (.int (nI h)), z4] []) (Nat.zero_le _) (fun h s hs => ?_) (fun h hh s hs ih z4 => ?_) (fun z4 => ?_) none
  · have hc := cnt_le (fun k => decide (t 13 k = h)) (t 0 7)
    unfold bsF; split
    · show cnt _ _ ≤ 8; omega
    · exact hs
  · skip
    refine j_iload_n dX11_busiest_23 rfl rfl ?_
    refine j_bipush (v := 24) dX11_busiest_24 (by decide) ?_
    refine j_icmp_ge (tgt := 56) dX11_busiest_26 (by decide) (fun h26 => absurd h26 (nI_ge (b := 24) hh (by decide))) (fun _ => ?_)
    refine j_aload_n dX11_busiest_29 rfl rfl ?_
    refine gR11_20 rfl dX11_busiest_30 hTn ?_
    refine j_iload_n dX11_busiest_33 rfl rfl ?_
    refine cV11_234 (d1 := 1) (kT0 hT) dX11_busiest_34 (by decide) (Nat.le_of_ble_eq_true rfl) ?_
    refine c_visitsAt hX hT hW hR (by omega) ?_
    refine j_istore (lv2 := [_, _, _, _, _]) dX11_busiest_37 (by decide) rfl rfl ?_
    refine j_iload dX11_busiest_39 rfl ?_
    refine j_iload_n dX11_busiest_41 rfl rfl ?_
    refine j_icmp_le (tgt := 50) dX11_busiest_42 (by decide) (fun h42 => ?_) (fun h42 => ?_)
    · refine j_iinc1 (lv2 := [_, _, _, _, _]) dX11_busiest_50 rfl (by decide) rfl rfl ?_
      refine j_goto (tgt := 23) dX11_busiest_53 (by decide) ?_
      rw [nI_1]
      have hc := cnt_le (fun k => decide (t 13 k = h)) (t 0 7)
      rw [nI_leI (by omega) (by omega)] at h42
      unfold bsF at ih
      first
        | (rw [if_neg (by omega)] at ih; exact ih _)
        | (rw [if_pos (by omega)] at ih; exact ih _)
    · refine j_iload dX11_busiest_45 rfl ?_
      refine j_istore_n (lv2 := [_, _, _, _, _]) dX11_busiest_47 rfl (by decide) rfl rfl ?_
      refine j_iload_n dX11_busiest_48 rfl rfl ?_
      refine j_istore_n (lv2 := [_, _, _, _, _]) dX11_busiest_49 rfl (by decide) rfl rfl ?_
      refine j_iinc1 (lv2 := [_, _, _, _, _]) dX11_busiest_50 rfl (by decide) rfl rfl ?_
      refine j_goto (tgt := 23) dX11_busiest_53 (by decide) ?_
      rw [nI_1]
      have hc := cnt_le (fun k => decide (t 13 k = h)) (t 0 7)
      rw [nI_leI (by omega) (by omega)] at h42
      unfold bsF at ih
      first
        | (rw [if_neg (by omega)] at ih; exact ih _)
        | (rw [if_pos (by omega)] at ih; exact ih _)
  · skip
    refine j_iload_n dX11_busiest_23 rfl rfl ?_
    refine j_bipush (v := 24) dX11_busiest_24 (by decide) ?_
    refine j_icmp_ge (tgt := 56) dX11_busiest_26 (by decide) (fun _ => ?_) (fun h26 => absurd (nI_le (a := 24) (b := 24) (Nat.le_refl 24) (by decide)) h26)
    refine j_aload_n dX11_busiest_56 rfl rfl ?_
    refine j_iload_n dX11_busiest_57 rfl rfl ?_
    refine cV11_105 (d1 := 1) rfl dX11_busiest_58 (by decide) (Nat.le_of_ble_eq_true rfl) ?_
    refine c_answer ?_
    refine j_iret rfl dX11_busiest_61 ?_
    exact hp
theorem cx_tells (hX : XR mr) (hT : TT T) (hTn : mr 0 2 = some T) (hW : WT t) (hR : RX mi T t) (h0 : mi T 0 = 1) (hp : (∀ a b, a < 4 → b < 8 → popc b = a → unl t b = true → (∀ a2 b2, b2 < 8 → (a2 < a ∨ a2 = a ∧ b2 < b) → popc b2 = a2 → unl t b2 = false) → post (some (.int (nI b))) (up mi 0 9 0) ml mr dom) ∧ ((∀ a2 b2, a2 < 4 → b2 < 8 → popc b2 = a2 → unl t b2 = false) → post (some (.int (-2))) (up mi 0 9 0) ml mr dom)) : CT G 3 0 0 yX11_tells cX11_tells 3 (some .int) [.ref 0] mi ml mr dom post := by
  have w := hW.1
  refine enter 2 (by decide) rfl rfl (fun X => ?_)
  refine j_aload_n dX11_tells_0 rfl rfl ?_
  refine gR11_20 rfl dX11_tells_1 hTn ?_
  refine gI11_178 (kT0 hT) dX11_tells_4 ?_
  refine j_if_ne (tgt := 16) dX11_tells_7 (by decide) (fun _ => ?_) (fun h7 => absurd h7 (by rw [h0]; decide))
  refine j_iconst (v := 0) dX11_tells_16 (by decide) ?_
  refine j_istore_n (lv2 := [_, _, _]) dX11_tells_17 rfl (by decide) rfl rfl ?_
  skip
  refine lp (n := 4) (Q := fun a => ∀ a2, a2 < a → ∀ b2, b2 < 8 → popc b2 = a2 → unl t b2 = false) (H := fun a => ∀ z2 : Option Value, J cX11_tells 3 yX11_tells.cls yX11_tells.name (some .int) 3 G X post 0 0 mi ml mr dom 18 [some (.ref 0), some (.int (nI a)), z2] []) (fun hQ z2 => ?_) (fun a ha hQ ih0 z2 => ?_) (fun a2 h => absurd h (by omega)) none
  · skip
    refine j_iload_n dX11_tells_18 rfl rfl ?_
    refine j_iconst (v := 3) dX11_tells_19 (by decide) ?_
    refine j_icmp_gt (tgt := 68) dX11_tells_20 (by decide) (fun _ => ?_) (fun h20 => absurd (nI_lt (a := 3) (b := 4) (by decide) (by decide)) h20)
    refine j_aload_n dX11_tells_68 rfl rfl ?_
    refine j_bipush (v := -2) dX11_tells_69 (by decide) ?_
    refine cV11_105 (d1 := 1) rfl dX11_tells_71 (by decide) (Nat.le_of_ble_eq_true rfl) ?_
    refine c_answer ?_
    refine j_iret rfl dX11_tells_74 ?_
    exact hp.2 (fun a2 b2 ha hb2 hpc => hQ a2 (by omega) b2 hb2 hpc)
  · have key : J cX11_tells 3 yX11_tells.cls yX11_tells.name (some .int) 3 G X post 0 0 mi ml mr dom 25 [some (.ref 0), some (.int (nI a)), some (.int (nI 0))] [] := by
      refine lp (n := 8) (Q := fun b => ∀ b2, b2 < b → popc b2 = a → unl t b2 = false) (H := fun b => J cX11_tells 3 yX11_tells.cls yX11_tells.name (some .int) 3 G X post 0 0 mi ml mr dom 25 [some (.ref 0), some (.int (nI a)), some (.int (nI b))] []) (fun hq => ?_) (fun b hb hq ih => ?_) (fun b2 h => absurd h (by omega))
      · skip
        refine j_iload_n dX11_tells_25 rfl rfl ?_
        refine j_bipush (v := 7) dX11_tells_26 (by decide) ?_
        refine j_icmp_gt (tgt := 62) dX11_tells_28 (by decide) (fun _ => ?_) (fun h28 => absurd (nI_lt (a := 7) (b := 8) (by decide) (by decide)) h28)
        refine j_iinc1 (lv2 := [_, _, _]) dX11_tells_62 rfl (by decide) rfl rfl ?_
        refine j_goto (tgt := 18) dX11_tells_65 (by decide) ?_
        rw [nI_1]
        refine ih0 (fun a2 ha2 b2 hb2 hpc => ?_) _
        by_cases haa : a2 = a
        · subst haa; exact hq b2 hb2 hpc
        · exact hQ a2 (by omega) b2 hb2 hpc
      · skip
        refine j_iload_n dX11_tells_25 rfl rfl ?_
        refine j_bipush (v := 7) dX11_tells_26 (by decide) ?_
        refine j_icmp_gt (tgt := 62) dX11_tells_28 (by decide) (fun h28 => absurd h28 (nI_nlt (a := 7) (b := b) (by omega) (by decide))) (fun _ => ?_)
        refine j_iload_n dX11_tells_31 rfl rfl ?_
        refine cS11_196 (d1 := 1) dX11_tells_32 (by decide) (Nat.le_of_ble_eq_true rfl) ?_
        refine c_bitCount ?_
        rw [bc32_nI b (by omega)]
        refine j_iload_n dX11_tells_35 rfl rfl ?_
        refine j_icmp_ne (tgt := 56) dX11_tells_36 (by decide) (fun h36 => ?_) (fun h36 => ?_)
        · refine j_iinc1 (lv2 := [_, _, _]) dX11_tells_56 rfl (by decide) rfl rfl ?_
          refine j_goto (tgt := 25) dX11_tells_59 (by decide) ?_
          rw [nI_1]
          refine ih (fun j hj hpc => ?_)
          rw [nI_eq (by have := pop_6 b (by omega); omega) (by omega)] at h36
          by_cases hjb : j = b
          · subst hjb
            first
              | exact absurd hpc h36
              | (rw [bN_eq0] at h47; exact h47)
          · exact hq j (by omega) hpc
        · refine j_aload_n dX11_tells_39 rfl rfl ?_
          refine gR11_20 rfl dX11_tells_40 hTn ?_
          refine j_iload_n dX11_tells_43 rfl rfl ?_
          refine cV11_241 (d1 := 2) (kT0 hT) dX11_tells_44 (by decide) (Nat.le_of_ble_eq_true rfl) ?_
          refine c_allUnlike hX hT hW hR (by omega) ?_
          refine j_if_eq (tgt := 56) dX11_tells_47 (by decide) (fun h47 => ?_) (fun h47 => ?_)
          · refine j_iinc1 (lv2 := [_, _, _]) dX11_tells_56 rfl (by decide) rfl rfl ?_
            refine j_goto (tgt := 25) dX11_tells_59 (by decide) ?_
            rw [nI_1]
            refine ih (fun j hj hpc => ?_)
            rw [nI_eq (by have := pop_6 b (by omega); omega) (by omega)] at h36
            by_cases hjb : j = b
            · subst hjb
              first
                | exact absurd hpc h36
                | (rw [bN_eq0] at h47; exact h47)
            · exact hq j (by omega) hpc
          · refine j_aload_n dX11_tells_50 rfl rfl ?_
            refine j_iload_n dX11_tells_51 rfl rfl ?_
            refine cV11_105 (d1 := 1) rfl dX11_tells_52 (by decide) (Nat.le_of_ble_eq_true rfl) ?_
            refine c_answer ?_
            refine j_iret rfl dX11_tells_55 ?_
            rw [nI_eq (by have := pop_6 b (by omega); omega) (by omega)] at h36
            rw [bN_eq0, Bool.not_eq_false] at h47
            exact hp.1 a b (by omega) (by omega) h36 h47 (fun a2 b2 hb2 hl hpc => by
              by_cases haa : a2 = a
              · subst haa; exact hq b2 (by omega) hpc
              · exact hQ a2 (by omega) b2 hb2 hpc)
    refine j_iload_n dX11_tells_18 rfl rfl ?_
    refine j_iconst (v := 3) dX11_tells_19 (by decide) ?_
    refine j_icmp_gt (tgt := 68) dX11_tells_20 (by decide) (fun h20 => absurd h20 (nI_nlt (a := 3) (b := a) (by omega) (by decide))) (fun _ => ?_)
    refine j_iconst (v := 0) dX11_tells_23 (by decide) ?_
    refine j_istore_n (lv2 := [_, _, _]) dX11_tells_24 rfl (by decide) rfl rfl ?_
    exact key
def rst (t : TW) (x y : Nat) : Bool := decide (gain t x y = mst t y 6) && decide (gain t y x = mst t x 6)
def rsN (t : TW) : Nat := fu (fun x c => fu (fun y c => if rst t x y then c + 1 else c) 6 c) 6 0
theorem cx_rests (hX : XR mr) (hT : TT T) (hTn : mr 0 2 = some T) (hW : WT t) (hR : RX mi T t) (h0 : mi T 0 = 1) (hp : ∀ m, off2 21 22 m mi → post (some (.int (nI (rsN t)))) (up m 0 9 0) ml mr dom) : CT G 4 0 0 yX11_rests cX11_rests 4 (some .int) [.ref 0] mi ml mr dom post := by
  have w := hW.1
  refine enter 3 (by decide) rfl rfl (fun X => ?_)
  refine j_aload_n dX11_rests_0 rfl rfl ?_
  refine gR11_20 rfl dX11_rests_1 hTn ?_
  refine gI11_178 (kT0 hT) dX11_rests_4 ?_
  refine j_if_ne (tgt := 16) dX11_rests_7 (by decide) (fun _ => ?_) (fun h7 => absurd h7 (by rw [h0]; decide))
  refine j_aload_n dX11_rests_16 rfl rfl ?_
  refine gR11_58 rfl dX11_rests_17 (x_shops hX) ?_
  refine j_aload_n dX11_rests_20 rfl rfl ?_
  refine gR11_20 rfl dX11_rests_21 hTn ?_
  refine cV11_297 (d1 := 3) rfl dX11_rests_24 (by decide) (Nat.le_of_ble_eq_true rfl) ?_
  refine c_weigh hX hT hW hR (fun m hm h21 h22 => ?_)
  refine j_iconst (v := 0) dX11_rests_27 (by decide) ?_
  refine j_istore_n (lv2 := [_, _, _, _]) dX11_rests_28 rfl (by decide) rfl rfl ?_
  refine j_iconst (v := 0) dX11_rests_29 (by decide) ?_
  refine j_istore_n (lv2 := [_, _, _, _]) dX11_rests_30 rfl (by decide) rfl rfl ?_
  skip
  refine fl (n := 6) (s0 := 0) (I := fun _ => True) (F := fun x c => fu (fun y c => if rst t x y then c + 1 else c) 6 c) (H := fun x c => ∀ z3 : Option Value, J cX11_rests 4 yX11_rests.cls yX11_rests.name (some .int) 4 G X post 0 0 m ml mr dom 31 [some (.ref 0), some (.int (nI c)), some (.int (nI x)), z3] []) trivial (fun _ _ _ => trivial) (fun x hx6 c _ ih0 z3 => ?_) (fun z3 => ?_) none
  · have key : J cX11_rests 4 yX11_rests.cls yX11_rests.name (some .int) 4 G X post 0 0 m ml mr dom 39 [some (.ref 0), some (.int (nI c)), some (.int (nI x)), some (.int (nI 0))] [] := by
      refine fl (n := 6) (s0 := c) (I := fun _ => True) (F := fun y c => if rst t x y then c + 1 else c) (H := fun y c => J cX11_rests 4 yX11_rests.cls yX11_rests.name (some .int) 4 G X post 0 0 m ml mr dom 39 [some (.ref 0), some (.int (nI c)), some (.int (nI x)), some (.int (nI y))] []) trivial (fun _ _ _ => trivial) (fun y hy6 c _ ih => ?_) ?_
      · skip
        refine j_iload_n dX11_rests_39 rfl rfl ?_
        refine j_bipush (v := 6) dX11_rests_40 (by decide) ?_
        refine j_icmp_ge (tgt := 66) dX11_rests_42 (by decide) (fun h42 => absurd h42 (nI_ge (a := y) (b := 6) hy6 (by decide))) (fun _ => ?_)
        refine j_aload_n dX11_rests_45 rfl rfl ?_
        refine gR11_58 rfl dX11_rests_46 (x_shops hX) ?_
        refine j_iload_n dX11_rests_49 rfl rfl ?_
        refine j_iload_n dX11_rests_50 rfl rfl ?_
        refine cV11_300 (d1 := 1) rfl dX11_rests_51 (by decide) (Nat.le_of_ble_eq_true rfl) ?_
        refine c_isRest hX h21 h22 hx6 hy6 (by omega) ?_
        refine j_if_eq (tgt := 60) dX11_rests_54 (by decide) (fun h54 => ?_) (fun h54 => ?_)
        · refine j_iinc1 (lv2 := [_, _, _, _]) dX11_rests_60 rfl (by decide) rfl rfl ?_
          refine j_goto (tgt := 39) dX11_rests_63 (by decide) ?_
          rw [nI_1]
          rw [bN_eq0] at h54
          first
            | (have h9 : rst t x y = false := h54
               rw [if_neg (by rw [h9]; decide)] at ih; exact ih)
            | (rw [Bool.not_eq_false] at h54
               have h9 : rst t x y = true := h54
               rw [nI_1]; rw [if_pos h9] at ih; exact ih)
        · refine j_iinc1 (lv2 := [_, _, _, _]) dX11_rests_57 rfl (by decide) rfl rfl ?_
          refine j_iinc1 (lv2 := [_, _, _, _]) dX11_rests_60 rfl (by decide) rfl rfl ?_
          refine j_goto (tgt := 39) dX11_rests_63 (by decide) ?_
          rw [nI_1]
          rw [bN_eq0] at h54
          first
            | (have h9 : rst t x y = false := h54
               rw [if_neg (by rw [h9]; decide)] at ih; exact ih)
            | (rw [Bool.not_eq_false] at h54
               have h9 : rst t x y = true := h54
               rw [nI_1]; rw [if_pos h9] at ih; exact ih)
      · skip
        refine j_iload_n dX11_rests_39 rfl rfl ?_
        refine j_bipush (v := 6) dX11_rests_40 (by decide) ?_
        refine j_icmp_ge (tgt := 66) dX11_rests_42 (by decide) (fun _ => ?_) (fun h42 => absurd (nI_le (a := 6) (b := 6) (Nat.le_refl 6) (by decide)) h42)
        refine j_iinc1 (lv2 := [_, _, _, _]) dX11_rests_66 rfl (by decide) rfl rfl ?_
        refine j_goto (tgt := 31) dX11_rests_69 (by decide) ?_
        rw [nI_1]
        exact ih0 _
    refine j_iload_n dX11_rests_31 rfl rfl ?_
    refine j_bipush (v := 6) dX11_rests_32 (by decide) ?_
    refine j_icmp_ge (tgt := 72) dX11_rests_34 (by decide) (fun h34 => absurd h34 (nI_ge (a := x) (b := 6) hx6 (by decide))) (fun _ => ?_)
    refine j_iconst (v := 0) dX11_rests_37 (by decide) ?_
    refine j_istore_n (lv2 := [_, _, _, _]) dX11_rests_38 rfl (by decide) rfl rfl ?_
    exact key
  · skip
    refine j_iload_n dX11_rests_31 rfl rfl ?_
    refine j_bipush (v := 6) dX11_rests_32 (by decide) ?_
    refine j_icmp_ge (tgt := 72) dX11_rests_34 (by decide) (fun _ => ?_) (fun h34 => absurd (nI_le (a := 6) (b := 6) (Nat.le_refl 6) (by decide)) h34)
    refine j_aload_n dX11_rests_72 rfl rfl ?_
    refine j_iload_n dX11_rests_73 rfl rfl ?_
    refine cV11_105 (d1 := 1) rfl dX11_rests_74 (by decide) (Nat.le_of_ble_eq_true rfl) ?_
    refine c_answer ?_
    refine j_iret rfl dX11_rests_77 ?_
    exact hp m hm
theorem cx_rest (hX : XR mr) (hT : TT T) (hTn : mr 0 2 = some T) (hW : WT t) (hR : RX mi T t) (h0 : mi T 0 = 1) (hp : ∀ m, off2 21 22 m mi → (∀ x y, x < 6 → y < 6 → rst t x y = true → (∀ a b, b < 6 → (a < x ∨ a = x ∧ b < y) → rst t a b = false) → post (some (.int (nI (10 * x + y)))) (up m 0 9 0) ml mr dom) ∧ ((∀ a b, a < 6 → b < 6 → rst t a b = false) → post (some (.int (-2))) (up m 0 9 0) ml mr dom)) : CT G 4 0 0 yX11_rest cX11_rest 3 (some .int) [.ref 0] mi ml mr dom post := by
  have w := hW.1
  refine enter 2 (by decide) rfl rfl (fun X => ?_)
  refine j_aload_n dX11_rest_0 rfl rfl ?_
  refine gR11_20 rfl dX11_rest_1 hTn ?_
  refine gI11_178 (kT0 hT) dX11_rest_4 ?_
  refine j_if_ne (tgt := 16) dX11_rest_7 (by decide) (fun _ => ?_) (fun h7 => absurd h7 (by rw [h0]; decide))
  refine j_aload_n dX11_rest_16 rfl rfl ?_
  refine gR11_58 rfl dX11_rest_17 (x_shops hX) ?_
  refine j_aload_n dX11_rest_20 rfl rfl ?_
  refine gR11_20 rfl dX11_rest_21 hTn ?_
  refine cV11_297 (d1 := 3) rfl dX11_rest_24 (by decide) (Nat.le_of_ble_eq_true rfl) ?_
  refine c_weigh hX hT hW hR (fun m hm h21 h22 => ?_)
  refine j_iconst (v := 0) dX11_rest_27 (by decide) ?_
  refine j_istore_n (lv2 := [_, _, _]) dX11_rest_28 rfl (by decide) rfl rfl ?_
  skip
  refine lp (n := 6) (Q := fun x => ∀ a, a < x → ∀ b, b < 6 → rst t a b = false) (H := fun x => ∀ z2 : Option Value, J cX11_rest 3 yX11_rest.cls yX11_rest.name (some .int) 4 G X post 0 0 m ml mr dom 29 [some (.ref 0), some (.int (nI x)), z2] []) (fun hQ z2 => ?_) (fun x hx6 hQ ih0 z2 => ?_) (fun a h => absurd h (by omega)) none
  · skip
    refine j_iload_n dX11_rest_29 rfl rfl ?_
    refine j_bipush (v := 6) dX11_rest_30 (by decide) ?_
    refine j_icmp_ge (tgt := 78) dX11_rest_32 (by decide) (fun _ => ?_) (fun h32 => absurd (nI_le (a := 6) (b := 6) (Nat.le_refl 6) (by decide)) h32)
    refine j_aload_n dX11_rest_78 rfl rfl ?_
    refine j_bipush (v := -2) dX11_rest_79 (by decide) ?_
    refine cV11_105 (d1 := 1) rfl dX11_rest_81 (by decide) (Nat.le_of_ble_eq_true rfl) ?_
    refine c_answer ?_
    refine j_iret rfl dX11_rest_84 ?_
    exact (hp m hm).2 (fun a b ha hb => hQ a ha b hb)
  · have key : J cX11_rest 3 yX11_rest.cls yX11_rest.name (some .int) 4 G X post 0 0 m ml mr dom 37 [some (.ref 0), some (.int (nI x)), some (.int (nI 0))] [] := by
      refine lp (n := 6) (Q := fun y => ∀ b, b < y → rst t x b = false) (H := fun y => J cX11_rest 3 yX11_rest.cls yX11_rest.name (some .int) 4 G X post 0 0 m ml mr dom 37 [some (.ref 0), some (.int (nI x)), some (.int (nI y))] []) (fun hq => ?_) (fun y hy6 hq ih => ?_) (fun b h => absurd h (by omega))
      · skip
        refine j_iload_n dX11_rest_37 rfl rfl ?_
        refine j_bipush (v := 6) dX11_rest_38 (by decide) ?_
        refine j_icmp_ge (tgt := 72) dX11_rest_40 (by decide) (fun _ => ?_) (fun h40 => absurd (nI_le (a := 6) (b := 6) (Nat.le_refl 6) (by decide)) h40)
        refine j_iinc1 (lv2 := [_, _, _]) dX11_rest_72 rfl (by decide) rfl rfl ?_
        refine j_goto (tgt := 29) dX11_rest_75 (by decide) ?_
        rw [nI_1]
        refine ih0 (fun a ha b hb => ?_) _
        by_cases hax : a = x
        · subst hax; exact hq b hb
        · exact hQ a (by omega) b hb
      · skip
        refine j_iload_n dX11_rest_37 rfl rfl ?_
        refine j_bipush (v := 6) dX11_rest_38 (by decide) ?_
        refine j_icmp_ge (tgt := 72) dX11_rest_40 (by decide) (fun h40 => absurd h40 (nI_ge (a := y) (b := 6) hy6 (by decide))) (fun _ => ?_)
        refine j_aload_n dX11_rest_43 rfl rfl ?_
        refine gR11_58 rfl dX11_rest_44 (x_shops hX) ?_
        refine j_iload_n dX11_rest_47 rfl rfl ?_
        refine j_iload_n dX11_rest_48 rfl rfl ?_
        refine cV11_300 (d1 := 1) rfl dX11_rest_49 (by decide) (Nat.le_of_ble_eq_true rfl) ?_
        refine c_isRest hX h21 h22 hx6 hy6 (by omega) ?_
        refine j_if_eq (tgt := 66) dX11_rest_52 (by decide) (fun h52 => ?_) (fun h52 => ?_)
        · refine j_iinc1 (lv2 := [_, _, _]) dX11_rest_66 rfl (by decide) rfl rfl ?_
          refine j_goto (tgt := 37) dX11_rest_69 (by decide) ?_
          rw [nI_1]
          rw [bN_eq0] at h52
          refine ih (fun j hj => ?_)
          by_cases hjy : j = y
          · subst hjy; exact h52
          · exact hq j (by omega)
        · refine j_aload_n dX11_rest_55 rfl rfl ?_
          refine j_bipush (v := 10) dX11_rest_56 (by decide) ?_
          refine j_iload_n dX11_rest_58 rfl rfl ?_
          refine j_imul dX11_rest_59 ?_
          refine j_iload_n dX11_rest_60 rfl rfl ?_
          refine j_iadd dX11_rest_61 ?_
          rw [show (10 : Int32) = nI 10 from rfl, pk_mul, nI_add]
          refine cV11_105 (d1 := 1) rfl dX11_rest_62 (by decide) (Nat.le_of_ble_eq_true rfl) ?_
          refine c_answer ?_
          refine j_iret rfl dX11_rest_65 ?_
          rw [bN_eq0, Bool.not_eq_false] at h52
          exact (hp m hm).1 x y hx6 hy6 h52 (fun a b hb hl => by
            by_cases hax : a = x
            · subst hax; exact hq b (by omega)
            · exact hQ a (by omega) b hb)
    refine j_iload_n dX11_rest_29 rfl rfl ?_
    refine j_bipush (v := 6) dX11_rest_30 (by decide) ?_
    refine j_icmp_ge (tgt := 78) dX11_rest_32 (by decide) (fun h32 => absurd h32 (nI_ge (a := x) (b := 6) hx6 (by decide))) (fun _ => ?_)
    refine j_iconst (v := 0) dX11_rest_35 (by decide) ?_
    refine j_istore_n (lv2 := [_, _, _]) dX11_rest_36 rfl (by decide) rfl rfl ?_
    exact key
def mlK (t : TW) (k : Nat) : Nat := mxf (fun p => wfK t (t 0 8) (6 * k + p)) (t 0 5)
def asF (t : TW) (j f : Nat) : Nat := if mlK t (j + 1) < mlK t f then j + 1 else f
def asK (t : TW) : Nat := fu (asF t) (t 0 8 - 1) 0
theorem cx_askE  (hX : XR mr) (hT : TT T) (hTn : mr 0 2 = some T) (hW : WT t) (hR : RX mi T t) (h0 : mi T 0 = 1) (hk : t 0 8 = 0) (hp : post (some (.int (-1))) (up mi 0 9 6) ml mr dom) : CT G 2 0 0 yX11_ask cX11_ask 3 (some .int) [.ref 0] mi ml mr dom post := by
  have w := hW.1
  refine enter 2 (by decide) rfl rfl (fun X => ?_)
  refine j_aload_n dX11_ask_0 rfl rfl ?_
  refine gR11_20 rfl dX11_ask_1 hTn ?_
  refine gI11_178 (kT0 hT) dX11_ask_4 ?_
  refine j_if_ne (tgt := 16) dX11_ask_7 (by decide) (fun _ => ?_) (fun h7 => absurd h7 (by rw [h0]; decide))
  refine j_aload_n dX11_ask_16 rfl rfl ?_
  refine gR11_20 rfl dX11_ask_17 hTn ?_
  refine gI11_274 (kT0 hT) dX11_ask_20 ?_
  refine j_if_ne (tgt := 33) dX11_ask_23 (by decide) (fun h23 => absurd h23 (fun q => q (by rw [hR.prints, hk]; rfl))) (fun _ => ?_)
  refine j_aload_n dX11_ask_26 rfl rfl ?_
  refine j_bipush (v := 6) dX11_ask_27 (by decide) ?_
  refine cV11_75 (d1 := 1) rfl dX11_ask_29 (by decide) (Nat.le_of_ble_eq_true rfl) ?_
  refine c_refuse ?_
  refine j_iret rfl dX11_ask_32 ?_
  exact hp
theorem cx_ask0  (hX : XR mr) (hT : TT T) (hTn : mr 0 2 = some T) (hW : WT t) (hR : RX mi T t) (h0 : mi T 0 = 1) (hk : 0 < t 0 8) (hz : pro (nrk t) (t 0 8) = 0) (hp : ∀ m, off3 17 18 19 m mi → m 17 2 = nI (t 0 5) → (∀ i, i < 30 → m 18 i = nI (wfK t (t 0 8) i)) → post (some (.int (-2))) (up m 0 9 0) ml mr dom) : CT G 11 0 0 yX11_ask cX11_ask 3 (some .int) [.ref 0] mi ml mr dom post := by
  have w := hW.1
  refine enter 2 (by decide) rfl rfl (fun X => ?_)
  refine j_aload_n dX11_ask_0 rfl rfl ?_
  refine gR11_20 rfl dX11_ask_1 hTn ?_
  refine gI11_178 (kT0 hT) dX11_ask_4 ?_
  refine j_if_ne (tgt := 16) dX11_ask_7 (by decide) (fun _ => ?_) (fun h7 => absurd h7 (by rw [h0]; decide))
  refine j_aload_n dX11_ask_16 rfl rfl ?_
  refine gR11_20 rfl dX11_ask_17 hTn ?_
  refine gI11_274 (kT0 hT) dX11_ask_20 ?_
  refine j_if_ne (tgt := 33) dX11_ask_23 (by decide) (fun _ => ?_) (fun h23 => absurd h23 (by rw [hR.prints]; exact nI_ne0 hk (by omega)))
  refine j_aload_n dX11_ask_33 rfl rfl ?_
  refine gR11_51 rfl dX11_ask_34 (x_rows hX) ?_
  refine j_aload_n dX11_ask_37 rfl rfl ?_
  refine gR11_20 rfl dX11_ask_38 hTn ?_
  refine cV11_277 (d1 := 10) rfl dX11_ask_41 (by decide) (Nat.le_of_ble_eq_true rfl) ?_
  refine c_count hX hT hW hR (fun m hm h17 h18 => ?_)
  refine j_if_ne (tgt := 54) dX11_ask_44 (by decide) (fun h44 => absurd h44 (fun q => q (by rw [hz]; rfl))) (fun _ => ?_)
  refine j_aload_n dX11_ask_47 rfl rfl ?_
  refine j_bipush (v := -2) dX11_ask_48 (by decide) ?_
  refine cV11_105 (d1 := 1) rfl dX11_ask_50 (by decide) (Nat.le_of_ble_eq_true rfl) ?_
  refine c_answer ?_
  refine j_iret rfl dX11_ask_53 ?_
  exact hp m hm h17 h18
theorem cx_ask (hX : XR mr) (hT : TT T) (hTn : mr 0 2 = some T) (hW : WT t) (hR : RX mi T t) (h0 : mi T 0 = 1) (hk : 0 < t 0 8) (hz : ¬ pro (nrk t) (t 0 8) = 0) (hzb : pro (nrk t) (t 0 8) < 2 ^ 31) (hwb : ∀ i, wfK t (t 0 8) i < 2 ^ 31) (hp : ∀ m, off3 17 18 19 m mi → m 17 2 = nI (t 0 5) → (∀ i, i < 30 → m 18 i = nI (wfK t (t 0 8) i)) → post (some (.int (nI (asK t)))) (up m 0 9 0) ml mr dom) : CT G 11 0 0 yX11_ask cX11_ask 3 (some .int) [.ref 0] mi ml mr dom post := by
  have w := hW.1
  refine enter 2 (by decide) rfl rfl (fun X => ?_)
  refine j_aload_n dX11_ask_0 rfl rfl ?_
  refine gR11_20 rfl dX11_ask_1 hTn ?_
  refine gI11_178 (kT0 hT) dX11_ask_4 ?_
  refine j_if_ne (tgt := 16) dX11_ask_7 (by decide) (fun _ => ?_) (fun h7 => absurd h7 (by rw [h0]; decide))
  refine j_aload_n dX11_ask_16 rfl rfl ?_
  refine gR11_20 rfl dX11_ask_17 hTn ?_
  refine gI11_274 (kT0 hT) dX11_ask_20 ?_
  refine j_if_ne (tgt := 33) dX11_ask_23 (by decide) (fun _ => ?_) (fun h23 => absurd h23 (by rw [hR.prints]; exact nI_ne0 hk (by omega)))
  refine j_aload_n dX11_ask_33 rfl rfl ?_
  refine gR11_51 rfl dX11_ask_34 (x_rows hX) ?_
  refine j_aload_n dX11_ask_37 rfl rfl ?_
  refine gR11_20 rfl dX11_ask_38 hTn ?_
  refine cV11_277 (d1 := 10) rfl dX11_ask_41 (by decide) (Nat.le_of_ble_eq_true rfl) ?_
  refine c_count hX hT hW hR (fun m hm h17 h18 => ?_)
  refine j_if_ne (tgt := 54) dX11_ask_44 (by decide) (fun _ => ?_) (fun h44 => absurd h44 (fun q => hz ((nI_eq (b := 0) hzb (by omega)).mp q)))
  refine j_iconst (v := 0) dX11_ask_54 (by decide) ?_
  refine j_istore_n (lv2 := [_, _, _]) dX11_ask_55 rfl (by decide) rfl rfl ?_
  refine j_iconst (v := 1) dX11_ask_56 (by decide) ?_
  refine j_istore_n (lv2 := [_, _, _]) dX11_ask_57 rfl (by decide) rfl rfl ?_
  skip
  refine fl (n := t 0 8 - 1) (s0 := 0) (I := fun f => f < 5) (F := fun j f => if j < t 0 8 - 1 then asF t j f else f) (H := fun j f => J cX11_ask 3 yX11_ask.cls yX11_ask.name (some .int) 11 G X post 0 0 m ml mr dom 58 [some (.ref 0), some (.int (nI f)), some (.int (nI (j + 1)))] []) (by omega) (fun j f h => ?_) (fun j hj f hf ih => ?_) ?_
  · split
    · unfold asF; split <;> omega
    · exact h
  · rw [if_pos hj] at ih
    refine j_iload_n dX11_ask_58 rfl rfl ?_
    refine j_aload_n dX11_ask_59 rfl rfl ?_
    refine gR11_20 rfl dX11_ask_60 hTn ?_
    refine gI11_274 (kT0 hT) dX11_ask_63 ?_
    refine j_icmp_ge (tgt := 96) dX11_ask_66 (by decide) (fun h66 => absurd (by rw [(RX.o3 hT hm hR).prints] at h66; exact h66) (nI_ge (by omega) (by omega))) (fun _ => ?_)
    refine j_aload_n dX11_ask_69 rfl rfl ?_
    refine gR11_51 rfl dX11_ask_70 (x_rows hX) ?_
    refine j_iload_n dX11_ask_73 rfl rfl ?_
    refine cV11_290 (d1 := 2) rfl dX11_ask_74 (by decide) (Nat.le_of_ble_eq_true rfl) ?_
    refine c_mostLeft (k := j + 1) hX h17 (by omega) (by omega) h18 hwb ?_
    refine j_aload_n dX11_ask_77 rfl rfl ?_
    refine gR11_51 rfl dX11_ask_78 (x_rows hX) ?_
    refine j_iload_n dX11_ask_81 rfl rfl ?_
    refine cV11_290 (d1 := 2) rfl dX11_ask_82 (by decide) (Nat.le_of_ble_eq_true rfl) ?_
    refine c_mostLeft (k := f) hX h17 (by omega) (by omega) h18 hwb ?_
    refine j_icmp_ge (tgt := 90) dX11_ask_85 (by decide) (fun h85 => ?_) (fun h85 => ?_)
    · refine j_iinc1 (lv2 := [_, _, _]) dX11_ask_90 rfl (by decide) rfl rfl ?_
      refine j_goto (tgt := 58) dX11_ask_93 (by decide) ?_
      rw [nI_1]
      have l1 := mxf_lt (fun p => hwb (6 * (j + 1) + p)) (t 0 5)
      have l2 := mxf_lt (fun p => hwb (6 * f + p)) (t 0 5)
      rw [nI_leI l2 l1] at h85
      unfold asF mlK at ih
      first
        | (rw [if_neg (by omega)] at ih; exact ih)
        | (rw [if_pos (by omega)] at ih; exact ih)
    · refine j_iload_n dX11_ask_88 rfl rfl ?_
      refine j_istore_n (lv2 := [_, _, _]) dX11_ask_89 rfl (by decide) rfl rfl ?_
      refine j_iinc1 (lv2 := [_, _, _]) dX11_ask_90 rfl (by decide) rfl rfl ?_
      refine j_goto (tgt := 58) dX11_ask_93 (by decide) ?_
      rw [nI_1]
      have l1 := mxf_lt (fun p => hwb (6 * (j + 1) + p)) (t 0 5)
      have l2 := mxf_lt (fun p => hwb (6 * f + p)) (t 0 5)
      rw [nI_leI l2 l1] at h85
      unfold asF mlK at ih
      first
        | (rw [if_neg (by omega)] at ih; exact ih)
        | (rw [if_pos (by omega)] at ih; exact ih)
  · have he : ∀ n, n ≤ t 0 8 - 1 → fu (fun j f => if j < t 0 8 - 1 then asF t j f else f) n 0 = fu (asF t) n 0 := by
      intro n
      induction n with
      | zero => intro _; rfl
      | succ n ih => intro hn; rw [fu, fu, ih (by omega), if_pos (by omega)]
    rw [he _ (Nat.le_refl _), show t 0 8 - 1 + 1 = t 0 8 by omega]
    refine j_iload_n dX11_ask_58 rfl rfl ?_
    refine j_aload_n dX11_ask_59 rfl rfl ?_
    refine gR11_20 rfl dX11_ask_60 hTn ?_
    refine gI11_274 (kT0 hT) dX11_ask_63 ?_
    refine j_icmp_ge (tgt := 96) dX11_ask_66 (by decide) (fun _ => ?_) (fun h66 => absurd (by rw [(RX.o3 hT hm hR).prints]; exact nI_le (by omega) (by omega)) h66)
    refine j_aload_n dX11_ask_96 rfl rfl ?_
    refine j_iload_n dX11_ask_97 rfl rfl ?_
    refine cV11_105 (d1 := 1) rfl dX11_ask_98 (by decide) (Nat.le_of_ble_eq_true rfl) ?_
    refine c_answer ?_
    refine j_iret rfl dX11_ask_101 ?_
    exact hp m hm h17 h18
end C11d
