/-! sums, counts, sets of bits; the class: Town's loops -/
theorem lq {H : Nat → Prop} {n : Nat} (ex : H n) (step : ∀ i, i < n → H (i + 1) → H i) : H 0 := lp (Q := fun _ => True) (fun _ => ex) (fun i hi _ ih => step i hi (ih trivial)) trivial
def bst (P : Nat → Bool) : Nat → Nat
  | 0 => 0
  | n + 1 => if P n then bst P n ||| 2 ^ n else bst P n
def cnt (P : Nat → Bool) : Nat → Nat
  | 0 => 0
  | n + 1 => if P n then cnt P n + 1 else cnt P n
def sm (f : Nat → Nat) : Nat → Nat
  | 0 => 0
  | n + 1 => sm f n + f n
theorem bst_lt (P : Nat → Bool) : ∀ n, bst P n < 2 ^ n := by
  intro n
  induction n with
  | zero => exact Nat.one_pos
  | succ n ih =>
    unfold bst
    have h2 : 2 ^ n < 2 ^ (n + 1) := Nat.pow_lt_pow_right (by omega) (by omega)
    split
    · exact Nat.or_lt_two_pow (Nat.lt_trans ih h2) h2
    · exact Nat.lt_trans ih h2
theorem bst_256 (P : Nat → Bool) {n : Nat} (hn : n ≤ 8) : bst P n < 256 := Nat.lt_of_lt_of_le (bst_lt P n) (Nat.le_trans (Nat.pow_le_pow_right (by omega) hn) (by decide))
theorem bst_s (P : Nat → Bool) {n : Nat} (hn : n < 8) : (if P n then nI (bst P n) ||| ((1 : Int32) <<< (nI n &&& 31)) else nI (bst P n)) = nI (bst P (n + 1)) := by
  rw [bit_set _ (bst_256 P (by omega)) _ hn, bst]
  split <;> rfl
theorem cnt_le (P : Nat → Bool) : ∀ n, cnt P n ≤ n := by
  intro n
  induction n with
  | zero => exact Nat.le_refl 0
  | succ n ih => unfold cnt; split <;> omega
theorem sm_le {f : Nat → Nat} {b : Nat} (n : Nat) (h : ∀ i, i < n → f i ≤ b) : sm f n ≤ n * b := by
  induction n with
  | zero => simp [sm]
  | succ n ih =>
    have := ih (fun i hi => h i (by omega))
    have := h n (by omega)
    rw [sm, Nat.succ_mul]; omega
section C9b
variable {G : GG} {post : PT} {mi : MI} {ml : ML} {mr : MR} {dom : List Nat} {T : Nat} {t : TW}
def dbl (t : TW) (p s : Nat) (b : Bool) : Nat := bst (fun q => decide (q ≠ p) && passF t p q s b) (t 0 5)
theorem c_doublesOf {p s : Nat} {b : Bool} (hX : XR mr) (hT : TT T) (hW : WT t) (hR : RX mi T t) (hp1 : p < t 0 5) (bs : s < 2 ^ 28) (hp : post (some (.int (nI (dbl t p s b)))) mi ml mr dom) : CT G 4 0 0 yX9_doublesOf cX9_doublesOf 6 (some .int) [.ref T, .int (nI p), .int (nI s), .int (nI (bN b))] mi ml mr dom post := by
  have w := hW.1
  refine enter 2 (by decide) rfl rfl (fun X => ?_)
  refine j_iconst (v := 0) dX9_doublesOf_0 (by decide) ?_
  refine j_istore (lv2 := [_, _, _, _, _, _]) dX9_doublesOf_1 (by decide) rfl rfl ?_
  refine j_iconst (v := 0) dX9_doublesOf_3 (by decide) ?_
  refine j_istore (lv2 := [_, _, _, _, _, _]) dX9_doublesOf_4 (by decide) rfl rfl ?_
  skip
  obtain ⟨P, hP⟩ : ∃ P : Nat → Bool, P = (fun q => decide (q ≠ p) && passF t p q s b) := ⟨_, rfl⟩
  refine lq (n := t 0 5) (H := fun i => J cX9_doublesOf 6 yX9_doublesOf.cls yX9_doublesOf.name (some .int) 4 G X post 0 0 mi ml mr dom 6 [some (.ref T), some (.int (nI p)), some (.int (nI s)), some (.int (nI (bN b))), some (.int (nI (bst P i))), some (.int (nI i))] []) ?_ (fun i hi ih => ?_)
  · have he : bst P (t 0 5) = dbl t p s b := by rw [hP]; rfl
    rw [he]
    refine j_iload dX9_doublesOf_6 rfl ?_
    refine j_aload_n dX9_doublesOf_8 rfl rfl ?_
    refine gI9_28 (kT0 hT) dX9_doublesOf_9 ?_
    refine j_icmp_ge (tgt := 57) dX9_doublesOf_12 (by decide) (fun _ => ?_) (fun h12 => absurd (by rw [hR.people]; exact nI_le (Nat.le_refl _) (by omega)) h12)
    refine j_iload dX9_doublesOf_57 rfl ?_
    refine j_iret rfl dX9_doublesOf_59 ?_
    exact hp
  · skip
    refine j_iload dX9_doublesOf_6 rfl ?_
    refine j_aload_n dX9_doublesOf_8 rfl rfl ?_
    refine gI9_28 (kT0 hT) dX9_doublesOf_9 ?_
    refine j_icmp_ge (tgt := 57) dX9_doublesOf_12 (by decide) (fun h12 => absurd (by rw [hR.people] at h12; exact h12) (nI_ge hi (by omega))) (fun _ => ?_)
    refine j_iload dX9_doublesOf_15 rfl ?_
    refine j_iload_n dX9_doublesOf_17 rfl rfl ?_
    refine j_icmp_eq (tgt := 51) dX9_doublesOf_18 (by decide) (fun h18 => ?_) (fun h18 => ?_)
    all_goals rw [nI_eq (by omega) (by omega)] at h18
    · refine j_iinc1 (lv2 := [_, _, _, _, _, _]) dX9_doublesOf_51 rfl (by decide) rfl rfl ?_
      refine j_goto (tgt := 6) dX9_doublesOf_54 (by decide) ?_
      rw [nI_1]
      first
        | (have e1 : P i = false := by
             rw [hP]; subst h18; simp
           rw [bst, e1] at ih; exact ih)
        | (have e1 : P i = false := by
             rw [bN_eq0] at h39; rw [hP]; simp only [passF]; rw [h39, Bool.and_false]
           rw [bst, e1] at ih; exact ih)
        | (have e1 : P i = true := by
             rw [bN_eq0] at h39; rw [hP]; simp only [Bool.not_eq_false] at h39; show (decide (i ≠ p) && passF t p i s b) = true; rw [decide_eq_true h18, Bool.true_and]; exact h39
           rw [bit_set _ (bst_256 P (by omega)) _ (by omega)]
           rw [bst, e1] at ih; exact ih)
    · refine j_aload_n dX9_doublesOf_21 rfl rfl ?_
      refine gR9_53 (kT0 hT) dX9_doublesOf_22 (xT_persons hX hT) ?_
      refine j_iload_n dX9_doublesOf_25 rfl rfl ?_
      refine j_aald (C := RX3) (kT5 hT) (by decide) (fun _ => rfl) (inT (lT5 hT) (show p < 6 by omega) (by omega)) (mr_nI (by omega) (xT_p hX hT (show p < 6 by omega))) dX9_doublesOf_26 (by decide) ?_
      refine j_aload_n dX9_doublesOf_27 rfl rfl ?_
      refine gR9_53 (kT0 hT) dX9_doublesOf_28 (xT_persons hX hT) ?_
      refine j_iload dX9_doublesOf_31 rfl ?_
      refine j_aald (C := RX3) (kT5 hT) (by decide) (fun _ => rfl) (inT (lT5 hT) (show i < 6 by omega) (by omega)) (mr_nI (by omega) (xT_p hX hT (show i < 6 by omega))) dX9_doublesOf_33 (by decide) ?_
      refine j_iload_n dX9_doublesOf_34 rfl rfl ?_
      refine j_iload_n dX9_doublesOf_35 rfl rfl ?_
      refine cV9_102 (d1 := 3) (kP hT (show p < 6 by omega)) dX9_doublesOf_36 (by decide) (Nat.le_of_ble_eq_true rfl) ?_
      refine c_passesFor (pv hX hT hW hR hp1) (pv hX hT hW hR hi) bs ?_
      refine j_if_eq (tgt := 51) dX9_doublesOf_39 (by decide) (fun h39 => ?_) (fun h39 => ?_)
      · refine j_iinc1 (lv2 := [_, _, _, _, _, _]) dX9_doublesOf_51 rfl (by decide) rfl rfl ?_
        refine j_goto (tgt := 6) dX9_doublesOf_54 (by decide) ?_
        rw [nI_1]
        first
          | (have e1 : P i = false := by
               rw [hP]; subst h18; simp
             rw [bst, e1] at ih; exact ih)
          | (have e1 : P i = false := by
               rw [bN_eq0] at h39; rw [hP]; simp only [passF]; rw [h39, Bool.and_false]
             rw [bst, e1] at ih; exact ih)
          | (have e1 : P i = true := by
               rw [bN_eq0] at h39; rw [hP]; simp only [Bool.not_eq_false] at h39; show (decide (i ≠ p) && passF t p i s b) = true; rw [decide_eq_true h18, Bool.true_and]; exact h39
             rw [bit_set _ (bst_256 P (by omega)) _ (by omega)]
             rw [bst, e1] at ih; exact ih)
      · refine j_iload dX9_doublesOf_42 rfl ?_
        refine j_iconst (v := 1) dX9_doublesOf_44 (by decide) ?_
        refine j_iload dX9_doublesOf_45 rfl ?_
        refine j_ishl dX9_doublesOf_47 ?_
        refine j_ior dX9_doublesOf_48 ?_
        refine j_istore (lv2 := [_, _, _, _, _, _]) dX9_doublesOf_49 (by decide) rfl rfl ?_
        refine j_iinc1 (lv2 := [_, _, _, _, _, _]) dX9_doublesOf_51 rfl (by decide) rfl rfl ?_
        refine j_goto (tgt := 6) dX9_doublesOf_54 (by decide) ?_
        rw [nI_1]
        first
          | (have e1 : P i = false := by
               rw [hP]; subst h18; simp
             rw [bst, e1] at ih; exact ih)
          | (have e1 : P i = false := by
               rw [bN_eq0] at h39; rw [hP]; simp only [passF]; rw [h39, Bool.and_false]
             rw [bst, e1] at ih; exact ih)
          | (have e1 : P i = true := by
               rw [bN_eq0] at h39; rw [hP]; simp only [Bool.not_eq_false] at h39; show (decide (i ≠ p) && passF t p i s b) = true; rw [decide_eq_true h18, Bool.true_and]; exact h39
             rw [bit_set _ (bst_256 P (by omega)) _ (by omega)]
             rw [bst, e1] at ih; exact ih)
theorem c_finesBy {s : Nat} (hX : XR mr) (hT : TT T) (hW : WT t) (hR : RX mi T t) (bs : s < 2 ^ 28) (hp : post (some (.int (nI (sm (fun v => fiA t v s) (t 0 7))))) mi ml mr dom) : CT G 4 0 0 yX9_finesBy cX9_finesBy 4 (some .int) [.ref T, .int (nI s)] mi ml mr dom post := by
  have w := hW.1
  refine enter 2 (by decide) rfl rfl (fun X => ?_)
  refine j_iconst (v := 0) dX9_finesBy_0 (by decide) ?_
  refine j_istore_n (lv2 := [_, _, _, _]) dX9_finesBy_1 rfl (by decide) rfl rfl ?_
  refine j_iconst (v := 0) dX9_finesBy_2 (by decide) ?_
  refine j_istore_n (lv2 := [_, _, _, _]) dX9_finesBy_3 rfl (by decide) rfl rfl ?_
  skip
  refine lq (n := t 0 7) (H := fun i => J cX9_finesBy 4 yX9_finesBy.cls yX9_finesBy.name (some .int) 4 G X post 0 0 mi ml mr dom 4 [some (.ref T), some (.int (nI s)), some (.int (nI (sm (fun v => fiA t v s) i))), some (.int (nI i))] []) ?_ (fun i hi ih => ?_)
  · skip
    refine j_iload_n dX9_finesBy_4 rfl rfl ?_
    refine j_aload_n dX9_finesBy_5 rfl rfl ?_
    refine gI9_34 (kT0 hT) dX9_finesBy_6 ?_
    refine j_icmp_ge (tgt := 27) dX9_finesBy_9 (by decide) (fun _ => ?_) (fun h9 => absurd (by rw [hR.visits]; exact nI_le (Nat.le_refl _) (by omega)) h9)
    refine j_iload_n dX9_finesBy_27 rfl rfl ?_
    refine j_iret rfl dX9_finesBy_28 ?_
    exact hp
  · skip
    refine j_iload_n dX9_finesBy_4 rfl rfl ?_
    refine j_aload_n dX9_finesBy_5 rfl rfl ?_
    refine gI9_34 (kT0 hT) dX9_finesBy_6 ?_
    refine j_icmp_ge (tgt := 27) dX9_finesBy_9 (by decide) (fun h9 => absurd (by rw [hR.visits] at h9; exact h9) (nI_ge hi (by omega))) (fun _ => ?_)
    refine j_iload_n dX9_finesBy_12 rfl rfl ?_
    refine j_aload_n dX9_finesBy_13 rfl rfl ?_
    refine j_iload_n dX9_finesBy_14 rfl rfl ?_
    refine j_iload_n dX9_finesBy_15 rfl rfl ?_
    refine cV9_136 (d1 := 3) (kT0 hT) dX9_finesBy_16 (by decide) (Nat.le_of_ble_eq_true rfl) ?_
    refine c_fineAt0 hX hT hW hR hi bs rfl rfl ?_
    refine j_iadd dX9_finesBy_19 ?_
    refine j_istore_n (lv2 := [_, _, _, _]) dX9_finesBy_20 rfl (by decide) rfl rfl ?_
    refine j_iinc1 (lv2 := [_, _, _, _]) dX9_finesBy_21 rfl (by decide) rfl rfl ?_
    refine j_goto (tgt := 4) dX9_finesBy_24 (by decide) ?_
    rw [nI_1, nI_add]
    exact ih
theorem c_visitsAt {x : Nat} (hX : XR mr) (hT : TT T) (hW : WT t) (hR : RX mi T t) (hx : x < 2 ^ 31) (hp : post (some (.int (nI (cnt (fun v => decide (t 13 v = x)) (t 0 7))))) mi ml mr dom) : CT G 1 0 0 yX9_visitsAt cX9_visitsAt 4 (some .int) [.ref T, .int (nI x)] mi ml mr dom post := by
  have w := hW.1
  refine enter 2 (by decide) rfl rfl (fun X => ?_)
  refine j_iconst (v := 0) dX9_visitsAt_0 (by decide) ?_
  refine j_istore_n (lv2 := [_, _, _, _]) dX9_visitsAt_1 rfl (by decide) rfl rfl ?_
  refine j_iconst (v := 0) dX9_visitsAt_2 (by decide) ?_
  refine j_istore_n (lv2 := [_, _, _, _]) dX9_visitsAt_3 rfl (by decide) rfl rfl ?_
  skip
  refine lq (n := t 0 7) (H := fun i => J cX9_visitsAt 4 yX9_visitsAt.cls yX9_visitsAt.name (some .int) 1 G X post 0 0 mi ml mr dom 4 [some (.ref T), some (.int (nI x)), some (.int (nI (cnt (fun v => decide (t 13 v = x)) i))), some (.int (nI i))] []) ?_ (fun i hi ih => ?_)
  · skip
    refine j_iload_n dX9_visitsAt_4 rfl rfl ?_
    refine j_aload_n dX9_visitsAt_5 rfl rfl ?_
    refine gI9_34 (kT0 hT) dX9_visitsAt_6 ?_
    refine j_icmp_ge (tgt := 34) dX9_visitsAt_9 (by decide) (fun _ => ?_) (fun h9 => absurd (by rw [hR.visits]; exact nI_le (Nat.le_refl _) (by omega)) h9)
    refine j_iload_n dX9_visitsAt_34 rfl rfl ?_
    refine j_iret rfl dX9_visitsAt_35 ?_
    exact hp
  · skip
    refine j_iload_n dX9_visitsAt_4 rfl rfl ?_
    refine j_aload_n dX9_visitsAt_5 rfl rfl ?_
    refine gI9_34 (kT0 hT) dX9_visitsAt_6 ?_
    refine j_icmp_ge (tgt := 34) dX9_visitsAt_9 (by decide) (fun h9 => absurd (by rw [hR.visits] at h9; exact h9) (nI_ge hi (by omega))) (fun _ => ?_)
    refine j_aload_n dX9_visitsAt_12 rfl rfl ?_
    refine gR9_65 (kT0 hT) dX9_visitsAt_13 (xT_calls hX hT) ?_
    refine j_iload_n dX9_visitsAt_16 rfl rfl ?_
    refine j_aald (C := RX10) (kT7 hT) (by decide) (fun _ => rfl) (inT (lT7 hT) (show i < 8 by omega) (by omega)) (mr_nI (by omega) (xT_v hX hT (show i < 8 by omega))) dX9_visitsAt_17 (by decide) ?_
    refine gI9_116 (kV hT (show i < 8 by omega)) dX9_visitsAt_18 ?_
    refine j_iload_n dX9_visitsAt_21 rfl rfl ?_
    refine j_icmp_ne (tgt := 28) dX9_visitsAt_22 (by decide) (fun h22 => ?_) (fun h22 => ?_)
    · refine j_iinc1 (lv2 := [_, _, _, _]) dX9_visitsAt_28 rfl (by decide) rfl rfl ?_
      refine j_goto (tgt := 4) dX9_visitsAt_31 (by decide) ?_
      rw [nI_1]
      rw [(hR.vi hi).2.2, nI_eq (by have := (hW.vi hi).2.2; omega) hx] at h22
      first
        | (rw [cnt, if_neg (by simpa using h22)] at ih; exact ih)
        | (rw [nI_1]; rw [cnt, if_pos (by simpa using h22)] at ih; exact ih)
    · refine j_iinc1 (lv2 := [_, _, _, _]) dX9_visitsAt_25 rfl (by decide) rfl rfl ?_
      refine j_iinc1 (lv2 := [_, _, _, _]) dX9_visitsAt_28 rfl (by decide) rfl rfl ?_
      refine j_goto (tgt := 4) dX9_visitsAt_31 (by decide) ?_
      rw [nI_1]
      rw [(hR.vi hi).2.2, nI_eq (by have := (hW.vi hi).2.2; omega) hx] at h22
      first
        | (rw [cnt, if_neg (by simpa using h22)] at ih; exact ih)
        | (rw [nI_1]; rw [cnt, if_pos (by simpa using h22)] at ih; exact ih)
def gpm (t : TW) (g : Nat) : Nat := min (t 0 2 - t 1 (t 9 g)) (t 0 2 - t 1 (t 10 g))
def pcO (t : TW) (g : Nat) : Nat := (t 8 g + gpm t g - 1) / gpm t g
theorem ceil_le {b c q : Nat} (hc : 0 < c) : (b + c - 1) / c ≤ q ↔ b ≤ q * c := by
  rw [Nat.div_le_iff_le_mul_add_pred hc]
  constructor
  · intro h; rw [Nat.mul_comm q c]; omega
  · intro h; rw [Nat.mul_comm q c] at h; omega
theorem pasB_iff {t : TW} {b x y : Nat} : pasB t b x y = true ↔ b ≤ min (t 0 2 - t 1 x) (t 0 2 - t 1 y) := by
  unfold pasB
  rw [Bool.and_eq_true, decide_eq_true_eq, decide_eq_true_eq, Nat.le_min]
theorem c_piecesOf {g : Nat} (hX : XR mr) (hT : TT T) (hW : WT t) (hR : RX mi T t) (hL : 60 ≤ t 0 2) (hg : g < t 0 6) (hp : post (some (.int (nI (pcO t g)))) mi ml mr dom) : CT G 3 0 0 yX9_piecesOf cX9_piecesOf 5 (some .int) [.ref T, .int (nI g)] mi ml mr dom post := by
  have w := hW.1
  obtain ⟨w1, w2, w3, w4⟩ := hW.go hg
  obtain ⟨r1, r2, r3⟩ := hR.go hg
  have s1 := hW.si w3
  have s2 := hW.si w4
  have hg0 : 0 < gpm t g := by unfold gpm; omega
  have hpc : pcO t g ≤ t 8 g := (ceil_le hg0).mpr (Nat.le_mul_of_pos_right _ hg0)
  have hpc1 : 1 ≤ pcO t g := (Nat.le_div_iff_mul_le hg0).mpr (by omega)
  refine enter 3 (by decide) rfl rfl (fun X => ?_)
  refine j_aload_n dX9_piecesOf_0 rfl rfl ?_
  refine gR9_59 (kT0 hT) dX9_piecesOf_1 (xT_wares hX hT) ?_
  refine j_iload_n dX9_piecesOf_4 rfl rfl ?_
  refine j_aald (C := RX1) (kT6 hT) (by decide) (fun _ => rfl) (inT (lT6 hT) (show g < 5 by omega) (by omega)) (mr_nI (by omega) (xT_g hX hT (show g < 5 by omega))) dX9_piecesOf_5 (by decide) ?_
  refine j_astore_n (lv2 := [_, _, _, _, _]) dX9_piecesOf_6 rfl (by decide) rfl rfl ?_
  refine j_iconst (v := 1) dX9_piecesOf_7 (by decide) ?_
  refine j_istore_n (lv2 := [_, _, _, _, _]) dX9_piecesOf_8 rfl (by decide) rfl rfl ?_
  skip
  have key : ∀ z4 : Option Value, J cX9_piecesOf 5 yX9_piecesOf.cls yX9_piecesOf.name (some .int) 3 G X post 0 0 mi ml mr dom 9 [some (.ref T), some (.int (nI g)), some (.ref (T + 30 + g)), some (.int (nI (0 + 1))), z4] [] := by
    refine lp (n := t 8 g - 1) (Q := fun i => i + 1 ≤ pcO t g) (H := fun i => ∀ z4 : Option Value, J cX9_piecesOf 5 yX9_piecesOf.cls yX9_piecesOf.name (some .int) 3 G X post 0 0 mi ml mr dom 9 [some (.ref T), some (.int (nI g)), some (.ref (T + 30 + g)), some (.int (nI (i + 1))), z4] []) (fun hq z4 => ?_) (fun i hi hq ih z4 => ?_) hpc1
    · rw [show pcO t g = t 8 g by omega] at hp
      refine j_iload_n dX9_piecesOf_9 rfl rfl ?_
      refine j_aload_n dX9_piecesOf_10 rfl rfl ?_
      refine gI9_89 (kG hT (show g < 5 by omega)) dX9_piecesOf_11 ?_
      refine j_icmp_ge (tgt := 54) dX9_piecesOf_14 (by decide) (fun _ => ?_) (fun h14 => absurd (by rw [r1]; exact nI_le (by omega) (by omega)) h14)
      refine j_aload_n dX9_piecesOf_54 rfl rfl ?_
      refine gI9_89 (kG hT (show g < 5 by omega)) dX9_piecesOf_55 ?_
      refine j_iret rfl dX9_piecesOf_58 ?_
      rw [r1]
      exact hp
    · skip
      refine j_iload_n dX9_piecesOf_9 rfl rfl ?_
      refine j_aload_n dX9_piecesOf_10 rfl rfl ?_
      refine gI9_89 (kG hT (show g < 5 by omega)) dX9_piecesOf_11 ?_
      refine j_icmp_ge (tgt := 54) dX9_piecesOf_14 (by decide) (fun h14 => absurd (by rw [r1] at h14; exact h14) (nI_ge (by omega) (by omega))) (fun _ => ?_)
      refine j_aload_n dX9_piecesOf_17 rfl rfl ?_
      refine gI9_89 (kG hT (show g < 5 by omega)) dX9_piecesOf_18 ?_
      refine j_iload_n dX9_piecesOf_21 rfl rfl ?_
      refine j_iadd dX9_piecesOf_22 ?_
      refine j_iconst (v := 1) dX9_piecesOf_23 (by decide) ?_
      refine j_isub dX9_piecesOf_24 ?_
      refine j_iload_n dX9_piecesOf_25 rfl rfl ?_
      refine j_idiv dX9_piecesOf_26 (nI_ne0 (by omega) (by omega)) ?_
      rw [r1, nI_add, show (1 : Int32) = nI 1 from rfl, pk_sub (by omega), pk_div (by omega) (by omega) (by omega)]
      refine j_istore (lv2 := [_, _, _, _, _]) dX9_piecesOf_27 (by decide) rfl rfl ?_
      refine j_aload_n dX9_piecesOf_29 rfl rfl ?_
      refine j_iload dX9_piecesOf_30 rfl ?_
      refine j_aload_n dX9_piecesOf_32 rfl rfl ?_
      refine gI9_92 (kG hT (show g < 5 by omega)) dX9_piecesOf_33 ?_
      refine j_aload_n dX9_piecesOf_36 rfl rfl ?_
      refine gI9_95 (kG hT (show g < 5 by omega)) dX9_piecesOf_37 ?_
      refine cV9_98 (d1 := 2) (kT0 hT) dX9_piecesOf_40 (by decide) (Nat.le_of_ble_eq_true rfl) ?_
      rw [r2, r3]
      refine c_passesBoth hX hT hW hR hL (Nat.lt_of_le_of_lt (Nat.div_le_self _ _) (by omega)) w3 w4 ?_
      refine j_if_eq (tgt := 48) dX9_piecesOf_43 (by decide) (fun h43 => ?_) (fun h43 => ?_)
      · refine j_iinc1 (lv2 := [_, _, _, _, _]) dX9_piecesOf_48 rfl (by decide) rfl rfl ?_
        refine j_goto (tgt := 9) dX9_piecesOf_51 (by decide) ?_
        rw [nI_1]
        refine ih ?_ _
        rw [bN_eq0] at h43
        have e0 : ¬ pasB t ((t 8 g + (i + 1) - 1) / (i + 1)) (t 9 g) (t 10 g) = true := by rw [h43]; decide
        rw [pasB_iff] at e0
        have e1 : ¬ t 8 g ≤ gpm t g * (i + 1) := fun q => e0 ((ceil_le (q := gpm t g) (show 0 < i + 1 by omega)).mpr q)
        have e2 : ¬ pcO t g ≤ i + 1 := fun q => e1 (by rw [Nat.mul_comm]; exact (ceil_le hg0).mp q)
        omega
      · refine j_iload_n dX9_piecesOf_46 rfl rfl ?_
        refine j_iret rfl dX9_piecesOf_47 ?_
        have e9 : pcO t g = i + 1 := by
          rw [bN_eq0, Bool.not_eq_false, pasB_iff] at h43
          have e1 := (ceil_le (q := gpm t g) (show 0 < i + 1 by omega)).mp h43
          have e2 := (ceil_le (b := t 8 g) (q := i + 1) hg0).mpr (by rw [Nat.mul_comm]; exact e1)
          have e3 : pcO t g ≤ i + 1 := e2
          omega
        rw [e9] at hp
        exact hp
  exact key none
theorem tX9_nextSeed {seed : Int32}  (hp : post (some (.int (((75 * seed) + 74) - ((75 * seed) + 74) / 65537 * 65537))) mi ml mr dom) : CT G 1 0 0 yX9_nextSeed cX9_nextSeed 1 (some .int) [.int seed] mi ml mr dom post := by
  refine enter 0 (by decide) rfl rfl (fun X => ?_)
  refine j_bipush (v := 75) dX9_nextSeed_0 (by decide) ?_
  refine j_iload_n dX9_nextSeed_2 rfl rfl ?_
  refine j_imul dX9_nextSeed_3 ?_
  refine j_bipush (v := 74) dX9_nextSeed_4 (by decide) ?_
  refine j_iadd dX9_nextSeed_6 ?_
  refine j_ldc wd1194 dX9_nextSeed_7 ?_
  refine j_irem dX9_nextSeed_9 (by decide) ?_
  refine j_iret rfl dX9_nextSeed_10 ?_
  exact hp
def nxs (s : Nat) : Nat := (75 * s + 74) % 65537
theorem nxs_lt (s : Nat) : nxs s < 65537 := Nat.mod_lt _ (by decide)
theorem c_nextSeed {s : Nat} (hs : s ≤ 65536) (hp : post (some (.int (nI (nxs s)))) mi ml mr dom) : CT G 1 0 0 yX9_nextSeed cX9_nextSeed 1 (some .int) [.int (nI s)] mi ml mr dom post := by
  refine tX9_nextSeed ?_
  rw [show (75 : Int32) = nI 75 from rfl, show (74 : Int32) = nI 74 from rfl, show (65537 : Int32) = nI 65537 from rfl, pk_mul, nI_add, pk_rem (by omega) (by omega) (by omega)]
  exact hp
end C9b
