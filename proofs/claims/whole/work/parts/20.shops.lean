/-! the class: Shops -/
theorem RX_off {mi m : MI} {T : Nat} {t : TW} (e : ∀ j, m (T + j) = mi (T + j)) (h : RX mi T t) : RX m T t := by
  have e0 : m T = mi T := e 0
  obtain ⟨h1, h2, h3, h4, h5, h6, h7, h8⟩ := h
  refine ⟨?_, fun i hi => ?_, fun i hi => ?_, fun h0 i hi => ?_, fun p hp => ?_, fun g hg => ?_, fun v hv => ?_, fun k hk => ?_⟩
  · rw [e0, e 2]; exact h1
  · rw [e 1]; exact h2 i hi
  · rw [e 3]; exact h3 i hi
  · rw [e 4]; exact h4 h0 i hi
  · have e1 : m (T + 10 + p) = mi (T + 10 + p) := by rw [Nat.add_assoc]; exact e _
    have e2 : m (T + 10 + p + 10) = mi (T + 10 + p + 10) := by rw [Nat.add_assoc, Nat.add_assoc]; exact e _
    rw [e1, e2]; exact h5 p hp
  · have e1 : m (T + 30 + g) = mi (T + 30 + g) := by rw [Nat.add_assoc]; exact e _
    rw [e1]; exact h6 g hg
  · have e1 : m (T + 40 + v) = mi (T + 40 + v) := by rw [Nat.add_assoc]; exact e _
    rw [e1]; exact h7 v hv
  · have e1 : m (T + 50 + k) = mi (T + 50 + k) := by rw [Nat.add_assoc]; exact e _
    rw [e1]; exact h8 k hk
section C8
variable {G : GG} {post : PT} {mi : MI} {ml : ML} {mr : MR} {dom : List Nat} {T : Nat} {t : TW}
def cmr (t : TW) (x y : Nat) (p : Nat) : Bool := decide (over (t 6 p) (10 + 10 * y) < over (t 6 p) (10 + 10 * x))
def wvr (t : TW) (x y : Nat) (p : Nat) : Bool := decide (over (t 6 p) (10 + 10 * x) = over (t 6 p) (10 + 10 * y))
def gain (t : TW) (x y : Nat) : Nat := 3 * (cnt (cmr t x y) (t 0 5) + cnt (wvr t x y) (t 0 5) / 2) + 2 * x
theorem c_gain {x y : Nat} (hX : XR mr) (hT : TT T) (hW : WT t) (hR : RX mi T t) (hx : x < 6) (hy : y < 6) (hp : post (some (.int (nI (gain t x y)))) mi ml mr dom) : CT G 2 0 0 yX8_gain cX8_gain 8 (some .int) [.ref T, .int (nI x), .int (nI y)] mi ml mr dom post := by
  have w := hW.1
  refine enter 5 (by decide) rfl rfl (fun X => ?_)
  refine j_iconst (v := 0) dX8_gain_0 (by decide) ?_
  refine j_istore_n (lv2 := [_, _, _, _, _, _, _, _]) dX8_gain_1 rfl (by decide) rfl rfl ?_
  refine j_iconst (v := 0) dX8_gain_2 (by decide) ?_
  refine j_istore (lv2 := [_, _, _, _, _, _, _, _]) dX8_gain_3 (by decide) rfl rfl ?_
  refine j_iconst (v := 0) dX8_gain_5 (by decide) ?_
  refine j_istore (lv2 := [_, _, _, _, _, _, _, _]) dX8_gain_6 (by decide) rfl rfl ?_
  skip
  have c1 := cnt_le (cmr t x y) (t 0 5)
  have c2 := cnt_le (wvr t x y) (t 0 5)
  refine lq (n := t 0 5) (H := fun i => ∀ z6 z7 : Option Value, J cX8_gain 8 yX8_gain.cls yX8_gain.name (some .int) 2 G X post 0 0 mi ml mr dom 8 [some (.ref T), some (.int (nI x)), some (.int (nI y)), some (.int (nI (cnt (cmr t x y) i))), some (.int (nI (cnt (wvr t x y) i))), some (.int (nI i)), z6, z7] []) (fun z6 z7 => ?_) (fun i hi ih z6 z7 => ?_) none none
  · skip
    refine j_iload dX8_gain_8 rfl ?_
    refine j_aload_n dX8_gain_10 rfl rfl ?_
    refine gI8_18 (kT0 hT) dX8_gain_11 ?_
    refine j_icmp_ge (tgt := 84) dX8_gain_14 (by decide) (fun _ => ?_) (fun h14 => absurd (by rw [hR.people]; exact nI_le (Nat.le_refl _) (by omega)) h14)
    refine j_iconst (v := 3) dX8_gain_84 (by decide) ?_
    refine j_iload_n dX8_gain_85 rfl rfl ?_
    refine j_iload dX8_gain_86 rfl ?_
    refine j_iconst (v := 2) dX8_gain_88 (by decide) ?_
    refine j_idiv dX8_gain_89 (by decide) ?_
    refine j_iadd dX8_gain_90 ?_
    refine j_imul dX8_gain_91 ?_
    refine j_iconst (v := 2) dX8_gain_92 (by decide) ?_
    refine j_iload_n dX8_gain_93 rfl rfl ?_
    refine j_imul dX8_gain_94 ?_
    refine j_iadd dX8_gain_95 ?_
    rw [show (2 : Int32) = nI 2 from rfl, pk_div (by omega) (by omega) (by omega), nI_add, show (3 : Int32) = nI 3 from rfl, pk_mul, pk_mul, nI_add]
    refine j_iret rfl dX8_gain_96 ?_
    exact hp
  · have P1 := pv hX hT hW hR hi
    refine j_iload dX8_gain_8 rfl ?_
    refine j_aload_n dX8_gain_10 rfl rfl ?_
    refine gI8_18 (kT0 hT) dX8_gain_11 ?_
    refine j_icmp_ge (tgt := 84) dX8_gain_14 (by decide) (fun h14 => absurd (by rw [hR.people] at h14; exact h14) (nI_ge hi (by omega))) (fun _ => ?_)
    refine j_aload_n dX8_gain_17 rfl rfl ?_
    refine gR8_24 (kT0 hT) dX8_gain_18 (xT_persons hX hT) ?_
    refine j_iload dX8_gain_21 rfl ?_
    refine j_aald (C := RX3) (kT5 hT) (by decide) (fun _ => rfl) (inT (lT5 hT) (show i < 6 by omega) (by omega)) (mr_nI (by omega) (xT_p hX hT (show i < 6 by omega))) dX8_gain_23 (by decide) ?_
    refine j_bipush (v := 10) dX8_gain_24 (by decide) ?_
    refine j_bipush (v := 10) dX8_gain_26 (by decide) ?_
    refine j_iload_n dX8_gain_28 rfl rfl ?_
    refine j_imul dX8_gain_29 ?_
    refine j_iadd dX8_gain_30 ?_
    refine cV8_28 (d1 := 1) (kP hT (show i < 6 by omega)) dX8_gain_31 (by decide) (Nat.le_of_ble_eq_true rfl) ?_
    rw [show (10 : Int32) = nI 10 from rfl, pk_mul, nI_add]
    refine c_marksOver P1.1 P1.2.2.2.2.2.1 (by have := P1.2.2.2.2.2.2.2.2.1; omega) (by omega) ?_
    refine j_istore (lv2 := [_, _, _, _, _, _, _, _]) dX8_gain_34 (by decide) rfl rfl ?_
    refine j_aload_n dX8_gain_36 rfl rfl ?_
    refine gR8_24 (kT0 hT) dX8_gain_37 (xT_persons hX hT) ?_
    refine j_iload dX8_gain_40 rfl ?_
    refine j_aald (C := RX3) (kT5 hT) (by decide) (fun _ => rfl) (inT (lT5 hT) (show i < 6 by omega) (by omega)) (mr_nI (by omega) (xT_p hX hT (show i < 6 by omega))) dX8_gain_42 (by decide) ?_
    refine j_bipush (v := 10) dX8_gain_43 (by decide) ?_
    refine j_bipush (v := 10) dX8_gain_45 (by decide) ?_
    refine j_iload_n dX8_gain_47 rfl rfl ?_
    refine j_imul dX8_gain_48 ?_
    refine j_iadd dX8_gain_49 ?_
    refine cV8_28 (d1 := 1) (kP hT (show i < 6 by omega)) dX8_gain_50 (by decide) (Nat.le_of_ble_eq_true rfl) ?_
    rw [show (10 : Int32) = nI 10 from rfl, pk_mul, nI_add]
    refine c_marksOver P1.1 P1.2.2.2.2.2.1 (by have := P1.2.2.2.2.2.2.2.2.1; omega) (by omega) ?_
    refine j_istore (lv2 := [_, _, _, _, _, _, _, _]) dX8_gain_53 (by decide) rfl rfl ?_
    refine j_iload dX8_gain_55 rfl ?_
    refine j_iload dX8_gain_57 rfl ?_
    refine j_icmp_le (tgt := 68) dX8_gain_59 (by decide) (fun h59 => ?_) (fun h59 => ?_)
    · refine j_iload dX8_gain_68 rfl ?_
      refine j_iload dX8_gain_70 rfl ?_
      refine j_icmp_ne (tgt := 78) dX8_gain_72 (by decide) (fun h72 => ?_) (fun h72 => ?_)
      · refine j_iinc1 (lv2 := [_, _, _, _, _, _, _, _]) dX8_gain_78 rfl (by decide) rfl rfl ?_
        refine j_goto (tgt := 8) dX8_gain_81 (by decide) ?_
        rw [nI_1]
        have o1 := over_le (t 6 i) (10 + 10 * x)
        have o2 := over_le (t 6 i) (10 + 10 * y)
        rw [nI_leI (by omega) (by omega)] at h59
        first
          | (have e1 : cmr t x y i = true := by unfold cmr; rw [decide_eq_true (by omega)]
             have e2 : wvr t x y i = false := by unfold wvr; rw [decide_eq_false (by omega)]
             rw [nI_1]
             rw [cnt, cnt, e1, e2] at ih; exact ih _ _)
          | (rw [nI_eq (by omega) (by omega)] at h72
             have e1 : cmr t x y i = false := by unfold cmr; rw [decide_eq_false (by omega)]
             first
               | (have e2 : wvr t x y i = false := by unfold wvr; rw [decide_eq_false (by omega)]
                  rw [cnt, cnt, e1, e2] at ih; exact ih _ _)
               | (have e2 : wvr t x y i = true := by unfold wvr; rw [decide_eq_true (by omega)]
                  rw [nI_1]
                  rw [cnt, cnt, e1, e2] at ih; exact ih _ _))
      · refine j_iinc1 (lv2 := [_, _, _, _, _, _, _, _]) dX8_gain_75 rfl (by decide) rfl rfl ?_
        refine j_iinc1 (lv2 := [_, _, _, _, _, _, _, _]) dX8_gain_78 rfl (by decide) rfl rfl ?_
        refine j_goto (tgt := 8) dX8_gain_81 (by decide) ?_
        rw [nI_1]
        have o1 := over_le (t 6 i) (10 + 10 * x)
        have o2 := over_le (t 6 i) (10 + 10 * y)
        rw [nI_leI (by omega) (by omega)] at h59
        first
          | (have e1 : cmr t x y i = true := by unfold cmr; rw [decide_eq_true (by omega)]
             have e2 : wvr t x y i = false := by unfold wvr; rw [decide_eq_false (by omega)]
             rw [nI_1]
             rw [cnt, cnt, e1, e2] at ih; exact ih _ _)
          | (rw [nI_eq (by omega) (by omega)] at h72
             have e1 : cmr t x y i = false := by unfold cmr; rw [decide_eq_false (by omega)]
             first
               | (have e2 : wvr t x y i = false := by unfold wvr; rw [decide_eq_false (by omega)]
                  rw [cnt, cnt, e1, e2] at ih; exact ih _ _)
               | (have e2 : wvr t x y i = true := by unfold wvr; rw [decide_eq_true (by omega)]
                  rw [nI_1]
                  rw [cnt, cnt, e1, e2] at ih; exact ih _ _))
    · refine j_iinc1 (lv2 := [_, _, _, _, _, _, _, _]) dX8_gain_62 rfl (by decide) rfl rfl ?_
      refine j_goto (tgt := 78) dX8_gain_65 (by decide) ?_
      refine j_iinc1 (lv2 := [_, _, _, _, _, _, _, _]) dX8_gain_78 rfl (by decide) rfl rfl ?_
      refine j_goto (tgt := 8) dX8_gain_81 (by decide) ?_
      rw [nI_1]
      have o1 := over_le (t 6 i) (10 + 10 * x)
      have o2 := over_le (t 6 i) (10 + 10 * y)
      rw [nI_leI (by omega) (by omega)] at h59
      first
        | (have e1 : cmr t x y i = true := by unfold cmr; rw [decide_eq_true (by omega)]
           have e2 : wvr t x y i = false := by unfold wvr; rw [decide_eq_false (by omega)]
           rw [nI_1]
           rw [cnt, cnt, e1, e2] at ih; exact ih _ _)
        | (rw [nI_eq (by omega) (by omega)] at h72
           have e1 : cmr t x y i = false := by unfold cmr; rw [decide_eq_false (by omega)]
           first
             | (have e2 : wvr t x y i = false := by unfold wvr; rw [decide_eq_false (by omega)]
                rw [cnt, cnt, e1, e2] at ih; exact ih _ _)
             | (have e2 : wvr t x y i = true := by unfold wvr; rw [decide_eq_true (by omega)]
                rw [nI_1]
                rw [cnt, cnt, e1, e2] at ih; exact ih _ _))
theorem gain_le (t : TW) {x : Nat} (y : Nat) (hx : x < 6) (h : t 0 5 ≤ 6) : gain t x y ≤ 40 := by
  have c1 := cnt_le (cmr t x y) (t 0 5)
  have c2 := cnt_le (wvr t x y) (t 0 5)
  unfold gain; omega
/-- the most that an owner can have against the other's tens, of the first n -/
def mst (t : TW) (y : Nat) : Nat → Nat
  | 0 => 0
  | n + 1 => max (mst t y n) (gain t n y)
theorem mst_le (t : TW) (y : Nat) (h : t 0 5 ≤ 6) : ∀ n, n ≤ 6 → mst t y n ≤ 40 := by
  intro n
  induction n with
  | zero => intro _; exact Nat.zero_le _
  | succ n ih => intro hn; have := ih (by omega); have := gain_le t y (show n < 6 by omega) h; rw [mst]; omega
def off2 (a b : Nat) (m mi : MI) : Prop := ∀ n, n ≠ a → n ≠ b → m n = mi n
theorem c_weigh (hX : XR mr) (hT : TT T) (hW : WT t) (hR : RX mi T t) (hp : ∀ m, off2 21 22 m mi → (∀ a, a < 6 → ∀ b, b < 6 → m 21 (6 * a + b) = nI (gain t a b)) → (∀ b, b < 6 → m 22 b = nI (mst t b 6)) → post none m ml mr dom) : CT G 3 0 0 yX8_weigh cX8_weigh 5 none [.ref 20, .ref T] mi ml mr dom post := by
  have w := hW.1
  have hRm : ∀ m, off2 21 22 m mi → RX m T t := by
    intro m hm
    have e : ∀ j, m (T + j) = mi (T + j) := fun j => hm _ (by rcases hT with rfl | rfl <;> omega) (by rcases hT with rfl | rfl <;> omega)
    have e0 : m T = mi T := e 0
    exact RX_off e hR
  refine enter 3 (by decide) rfl rfl (fun X => ?_)
  refine j_aload_n dX8_weigh_0 rfl rfl ?_
  refine gR8_15 rfl dX8_weigh_1 (x_mosts hX) ?_
  refine j_iconst (v := 0) dX8_weigh_4 (by decide) ?_
  refine cS8_34 (d1 := 1) dX8_weigh_5 (by decide) (Nat.le_of_ble_eq_true rfl) ?_
  refine c_fill rfl (by decide) ?_
  refine j_iconst (v := 0) dX8_weigh_8 (by decide) ?_
  refine j_istore_n (lv2 := [_, _, _, _, _]) dX8_weigh_9 rfl (by decide) rfl rfl ?_
  skip
  refine lq (n := 6) (H := fun x => ∀ z3 z4 : Option Value, ∀ m : MI, off2 21 22 m mi → (∀ a, a < x → ∀ b, b < 6 → m 21 (6 * a + b) = nI (gain t a b)) → (∀ b, b < 6 → m 22 b = nI (mst t b x)) → J cX8_weigh 5 yX8_weigh.cls yX8_weigh.name none 3 G X post 0 0 m ml mr dom 10 [some (.ref 20), some (.ref T), some (.int (nI x)), z3, z4] []) (fun z3 z4 m hm h1 h2 => ?_) (fun x hx6 ih0 z3 z4 m hm h1 h2 => ?_) none none _ (fun n h1 h2 => ?_) (fun a ha => absurd ha (by omega)) (fun b hb => ?_)
  · skip
    refine j_iload_n dX8_weigh_10 rfl rfl ?_
    refine j_bipush (v := 6) dX8_weigh_11 (by decide) ?_
    refine j_icmp_ge (tgt := 74) dX8_weigh_13 (by decide) (fun _ => ?_) (fun h13 => absurd (nI_le (a := 6) (b := 6) (Nat.le_refl 6) (by decide)) h13)
    refine j_vret rfl dX8_weigh_74 ?_
    exact hp m hm h1 h2
  · have key : ∀ z4 : Option Value, ∀ m : MI, off2 21 22 m mi → (∀ a, a < x → ∀ b, b < 6 → m 21 (6 * a + b) = nI (gain t a b)) → (∀ b, b < 0 → m 21 (6 * x + b) = nI (gain t x b)) → (∀ b, b < 0 → m 22 b = nI (mst t b (x + 1))) → (∀ b, b < 6 → 0 ≤ b → m 22 b = nI (mst t b x)) → J cX8_weigh 5 yX8_weigh.cls yX8_weigh.name none 3 G X post 0 0 m ml mr dom 18 [some (.ref 20), some (.ref T), some (.int (nI x)), some (.int (nI 0)), z4] [] := by
      refine lq (n := 6) (H := fun y => ∀ z4 : Option Value, ∀ m : MI, off2 21 22 m mi → (∀ a, a < x → ∀ b, b < 6 → m 21 (6 * a + b) = nI (gain t a b)) → (∀ b, b < y → m 21 (6 * x + b) = nI (gain t x b)) → (∀ b, b < y → m 22 b = nI (mst t b (x + 1))) → (∀ b, b < 6 → y ≤ b → m 22 b = nI (mst t b x)) → J cX8_weigh 5 yX8_weigh.cls yX8_weigh.name none 3 G X post 0 0 m ml mr dom 18 [some (.ref 20), some (.ref T), some (.int (nI x)), some (.int (nI y)), z4] []) (fun z4 m hm h1 h2 h3 h4 => ?_) (fun y hy6 ih z4 m hm h1 h2 h3 h4 => ?_)
      · skip
        refine j_iload_n dX8_weigh_18 rfl rfl ?_
        refine j_bipush (v := 6) dX8_weigh_19 (by decide) ?_
        refine j_icmp_ge (tgt := 68) dX8_weigh_21 (by decide) (fun _ => ?_) (fun h21 => absurd (nI_le (a := 6) (b := 6) (Nat.le_refl 6) (by decide)) h21)
        refine j_iinc1 (lv2 := [_, _, _, _, _]) dX8_weigh_68 rfl (by decide) rfl rfl ?_
        refine j_goto (tgt := 10) dX8_weigh_71 (by decide) ?_
        rw [nI_1]
        refine ih0 _ _ _ hm (fun a ha b hb => ?_) (fun b hb => h3 b hb)
        by_cases hax : a = x
        · subst hax; exact h2 b hb
        · exact h1 a (by omega) b hb
      · skip
        refine j_iload_n dX8_weigh_18 rfl rfl ?_
        refine j_bipush (v := 6) dX8_weigh_19 (by decide) ?_
        refine j_icmp_ge (tgt := 68) dX8_weigh_21 (by decide) (fun h21 => absurd h21 (nI_ge (a := y) (b := 6) hy6 (by decide))) (fun _ => ?_)
        refine j_aload_n dX8_weigh_24 rfl rfl ?_
        refine j_iload_n dX8_weigh_25 rfl rfl ?_
        refine j_iload_n dX8_weigh_26 rfl rfl ?_
        refine cS8_40 (d1 := 2) dX8_weigh_27 (by decide) (Nat.le_of_ble_eq_true rfl) ?_
        refine c_gain hX hT hW (hRm m hm) hx6 hy6 ?_
        refine j_istore (lv2 := [_, _, _, _, _]) dX8_weigh_30 (by decide) rfl rfl ?_
        refine j_aload_n dX8_weigh_32 rfl rfl ?_
        refine gR8_9 rfl dX8_weigh_33 (x_gains hX) ?_
        refine j_iload_n dX8_weigh_36 rfl rfl ?_
        refine j_bipush (v := 6) dX8_weigh_37 (by decide) ?_
        refine j_imul dX8_weigh_39 ?_
        refine j_iload_n dX8_weigh_40 rfl rfl ?_
        refine j_iadd dX8_weigh_41 ?_
        rw [ix6]
        refine j_iload dX8_weigh_42 rfl ?_
        refine j_iast rfl (inT (a := 21) (N := 36) rfl (show 6 * x + y < 36 by omega) (by omega)) dX8_weigh_44 ?_
        rw [nI_clamp (by omega)]
        refine j_aload_n dX8_weigh_45 rfl rfl ?_
        refine gR8_15 rfl dX8_weigh_46 (x_mosts hX) ?_
        refine j_iload_n dX8_weigh_49 rfl rfl ?_
        refine j_aload_n dX8_weigh_50 rfl rfl ?_
        refine gR8_15 rfl dX8_weigh_51 (x_mosts hX) ?_
        refine j_iload_n dX8_weigh_54 rfl rfl ?_
        refine j_iald rfl (inT (a := 22) (N := 6) rfl hy6 (by omega)) dX8_weigh_55 ?_
        rw [nI_clamp (by omega), up_off _ _ (by decide), h4 y hy6 (Nat.le_refl y)]
        refine j_iload dX8_weigh_56 rfl ?_
        refine j_mmax8_44 dX8_weigh_58 (by decide) (Nat.le_of_ble_eq_true rfl) ?_
        rw [imax_nI (by have := mst_le t y (by omega) x (by omega); omega) (by have := gain_le t y hx6 (by omega); omega)]
        refine j_iast rfl (inT (a := 22) (N := 6) rfl hy6 (by omega)) dX8_weigh_61 ?_
        rw [nI_clamp (by omega)]
        refine j_iinc1 (lv2 := [_, _, _, _, _]) dX8_weigh_62 rfl (by decide) rfl rfl ?_
        refine j_goto (tgt := 18) dX8_weigh_65 (by decide) ?_
        rw [nI_1]
        refine ih _ _ (fun n h1 h2 => ?_) (fun a ha b hb => ?_) (fun b hb => ?_) (fun b hb => ?_) (fun b hb hb2 => ?_)
        · rw [up_off _ _ h2, up_off _ _ h1]; exact hm n h1 h2
        · rw [up_off _ _ (by decide), up_ne _ _ (by omega)]; exact h1 a ha b hb
        · rw [up_off _ _ (by decide)]
          by_cases hby : b = y
          · subst hby; rw [up_at]
          · rw [up_ne _ _ (by omega)]; exact h2 b (by omega)
        · by_cases hby : b = y
          · subst hby; rw [up_at]; rfl
          · rw [up_ne _ _ hby, up_off _ _ (by decide)]; exact h3 b (by omega)
        · rw [up_ne _ _ (by omega), up_off _ _ (by decide)]; exact h4 b hb (by omega)
    refine j_iload_n dX8_weigh_10 rfl rfl ?_
    refine j_bipush (v := 6) dX8_weigh_11 (by decide) ?_
    refine j_icmp_ge (tgt := 74) dX8_weigh_13 (by decide) (fun h13 => absurd h13 (nI_ge (a := x) (b := 6) hx6 (by decide))) (fun _ => ?_)
    refine j_iconst (v := 0) dX8_weigh_16 (by decide) ?_
    refine j_istore_n (lv2 := [_, _, _, _, _]) dX8_weigh_17 rfl (by decide) rfl rfl ?_
    exact key z4 m hm h1 (fun b hb => absurd hb (by omega)) (fun b hb => absurd hb (by omega)) (fun b hb _ => h2 b hb)
  · funext i; unfold fillm; rw [if_neg h2]
  · unfold fillm; rw [if_pos rfl, if_pos (show b < ln 22 from hb)]; rfl
theorem c_isRest {x y : Nat} (hX : XR mr) (h1 : ∀ a, a < 6 → ∀ b, b < 6 → mi 21 (6 * a + b) = nI (gain t a b)) (h2 : ∀ b, b < 6 → mi 22 b = nI (mst t b 6)) (hx : x < 6) (hy : y < 6) (h5 : t 0 5 ≤ 6) (hp : post (some (.int (nI (bN (decide (gain t x y = mst t y 6) && decide (gain t y x = mst t x 6)))))) mi ml mr dom) : CT G 1 0 0 yX8_isRest cX8_isRest 3 (some .boolean) [.ref 20, .int (nI x), .int (nI y)] mi ml mr dom post := by
  refine enter 0 (by decide) rfl rfl (fun X => ?_)
  refine j_aload_n dX8_isRest_0 rfl rfl ?_
  refine gR8_9 rfl dX8_isRest_1 (x_gains hX) ?_
  refine j_iload_n dX8_isRest_4 rfl rfl ?_
  refine j_bipush (v := 6) dX8_isRest_5 (by decide) ?_
  refine j_imul dX8_isRest_7 ?_
  refine j_iload_n dX8_isRest_8 rfl rfl ?_
  refine j_iadd dX8_isRest_9 ?_
  rw [ix6]
  refine j_iald rfl (inT (a := 21) (N := 36) rfl (show 6 * x + y < 36 by omega) (by omega)) dX8_isRest_10 ?_
  rw [nI_clamp (by omega), h1 x hx y hy]
  refine j_aload_n dX8_isRest_11 rfl rfl ?_
  refine gR8_15 rfl dX8_isRest_12 (x_mosts hX) ?_
  refine j_iload_n dX8_isRest_15 rfl rfl ?_
  refine j_iald rfl (inT (a := 22) (N := 6) rfl hy (by omega)) dX8_isRest_16 ?_
  rw [nI_clamp (by omega), h2 y hy]
  refine j_icmp_ne (tgt := 44) dX8_isRest_17 (by decide) (fun h17 => ?_) (fun h17 => ?_)
  · refine j_iconst (v := 0) dX8_isRest_44 (by decide) ?_
    refine j_zret rfl (by decide) dX8_isRest_45 ?_
    have g1 := gain_le t y hx h5
    have g2 := gain_le t x hy h5
    have g3 := mst_le t y h5 6 (by omega)
    have g4 := mst_le t x h5 6 (by omega)
    rw [nI_eq (by omega) (by omega)] at h17
    first
      | (rw [decide_eq_false h17, Bool.false_and] at hp; exact hp)
      | (rw [nI_eq (by omega) (by omega)] at h37
         first
           | (rw [decide_eq_false h37, Bool.and_false] at hp; exact hp)
           | (rw [decide_eq_true h17, decide_eq_true h37] at hp; exact hp))
  · refine j_aload_n dX8_isRest_20 rfl rfl ?_
    refine gR8_9 rfl dX8_isRest_21 (x_gains hX) ?_
    refine j_iload_n dX8_isRest_24 rfl rfl ?_
    refine j_bipush (v := 6) dX8_isRest_25 (by decide) ?_
    refine j_imul dX8_isRest_27 ?_
    refine j_iload_n dX8_isRest_28 rfl rfl ?_
    refine j_iadd dX8_isRest_29 ?_
    rw [ix6]
    refine j_iald rfl (inT (a := 21) (N := 36) rfl (show 6 * y + x < 36 by omega) (by omega)) dX8_isRest_30 ?_
    rw [nI_clamp (by omega), h1 y hy x hx]
    refine j_aload_n dX8_isRest_31 rfl rfl ?_
    refine gR8_15 rfl dX8_isRest_32 (x_mosts hX) ?_
    refine j_iload_n dX8_isRest_35 rfl rfl ?_
    refine j_iald rfl (inT (a := 22) (N := 6) rfl hx (by omega)) dX8_isRest_36 ?_
    rw [nI_clamp (by omega), h2 x hx]
    refine j_icmp_ne (tgt := 44) dX8_isRest_37 (by decide) (fun h37 => ?_) (fun h37 => ?_)
    · refine j_iconst (v := 0) dX8_isRest_44 (by decide) ?_
      refine j_zret rfl (by decide) dX8_isRest_45 ?_
      have g1 := gain_le t y hx h5
      have g2 := gain_le t x hy h5
      have g3 := mst_le t y h5 6 (by omega)
      have g4 := mst_le t x h5 6 (by omega)
      rw [nI_eq (by omega) (by omega)] at h17
      first
        | (rw [decide_eq_false h17, Bool.false_and] at hp; exact hp)
        | (rw [nI_eq (by omega) (by omega)] at h37
           first
             | (rw [decide_eq_false h37, Bool.and_false] at hp; exact hp)
             | (rw [decide_eq_true h17, decide_eq_true h37] at hp; exact hp))
    · refine j_iconst (v := 1) dX8_isRest_40 (by decide) ?_
      refine j_goto (tgt := 45) dX8_isRest_41 (by decide) ?_
      refine j_zret rfl (by decide) dX8_isRest_45 ?_
      have g1 := gain_le t y hx h5
      have g2 := gain_le t x hy h5
      have g3 := mst_le t y h5 6 (by omega)
      have g4 := mst_le t x h5 6 (by omega)
      rw [nI_eq (by omega) (by omega)] at h17
      first
        | (rw [decide_eq_false h17, Bool.false_and] at hp; exact hp)
        | (rw [nI_eq (by omega) (by omega)] at h37
           first
             | (rw [decide_eq_false h37, Bool.and_false] at hp; exact hp)
             | (rw [decide_eq_true h17, decide_eq_true h37] at hp; exact hp))
end C8
