/-! the class: Person -/
section C3
variable {G : GG} {post : PT} {mi : MI} {ml : ML} {mr : MR} {dom : List Nat}
theorem tX3_strength {a : Nat}  (hk : kd a = 3) (hp : (if (mi a 0) = 1 then post (some (.int ((mi a 2) / 3))) mi ml mr dom else post (some (.int 0)) mi ml mr dom)) : CT G 1 0 0 yX3_strength cX3_strength 1 (some .int) [.ref a] mi ml mr dom post := by
  refine enter 0 (by decide) rfl rfl (fun X => ?_)
  refine j_aload_n dX3_strength_0 rfl rfl ?_
  refine gI3_9 hk dX3_strength_1 ?_
  refine j_iconst (v := 1) dX3_strength_4 (by decide) ?_
  refine j_icmp_ne (tgt := 17) dX3_strength_5 (by decide) (fun h1 => ?_) (fun h1 => ?_)
  · refine j_iconst (v := 0) dX3_strength_17 (by decide) ?_
    refine j_iret rfl dX3_strength_18 ?_
    rw [if_neg h1] at hp
    exact hp
  · refine j_aload_n dX3_strength_8 rfl rfl ?_
    refine gI3_18 hk dX3_strength_9 ?_
    refine j_iconst (v := 3) dX3_strength_12 (by decide) ?_
    refine j_idiv dX3_strength_13 (by decide) ?_
    refine j_goto (tgt := 18) dX3_strength_14 (by decide) ?_
    refine j_iret rfl dX3_strength_18 ?_
    rw [if_pos h1] at hp
    exact hp
theorem tX3_fineOver {a : Nat} {sill : Int32} {byDay : Int32} (hk : kd a = 3) (hp : (if byDay = 0 then post (some (.int 0)) mi ml mr dom else (if (mi a 0) = 1 then post (some (.int 0)) mi ml mr dom else post (some (.int (imax 0 (((mi a 2) / 2) - sill)))) mi ml mr dom))) : CT G 2 0 0 yX3_fineOver cX3_fineOver 3 (some .int) [.ref a, .int sill, .int byDay] mi ml mr dom post := by
  refine enter 0 (by decide) rfl rfl (fun X => ?_)
  refine j_iload_n dX3_fineOver_0 rfl rfl ?_
  refine j_if_eq (tgt := 12) dX3_fineOver_1 (by decide) (fun h1 => ?_) (fun h1 => ?_)
  · refine j_iconst (v := 0) dX3_fineOver_12 (by decide) ?_
    refine j_iret rfl dX3_fineOver_13 ?_
    rw [if_pos h1] at hp
    exact hp
  · refine j_aload_n dX3_fineOver_4 rfl rfl ?_
    refine gI3_9 hk dX3_fineOver_5 ?_
    refine j_iconst (v := 1) dX3_fineOver_8 (by decide) ?_
    refine j_icmp_ne (tgt := 14) dX3_fineOver_9 (by decide) (fun h2 => ?_) (fun h2 => ?_)
    · refine j_iconst (v := 0) dX3_fineOver_14 (by decide) ?_
      refine j_aload_n dX3_fineOver_15 rfl rfl ?_
      refine gI3_18 hk dX3_fineOver_16 ?_
      refine j_iconst (v := 2) dX3_fineOver_19 (by decide) ?_
      refine j_idiv dX3_fineOver_20 (by decide) ?_
      refine j_iload_n dX3_fineOver_21 rfl rfl ?_
      refine j_isub dX3_fineOver_22 ?_
      refine j_mmax3_37 dX3_fineOver_23 (by decide) (Nat.le_of_ble_eq_true rfl) ?_
      refine j_iret rfl dX3_fineOver_26 ?_
      rw [if_neg h1] at hp
      rw [if_neg h2] at hp
      exact hp
    · refine j_iconst (v := 0) dX3_fineOver_12 (by decide) ?_
      refine j_iret rfl dX3_fineOver_13 ?_
      rw [if_neg h1] at hp
      rw [if_pos h2] at hp
      exact hp
theorem c_strength {a k h : Nat} (hk : kd a = 3) (h0 : mi a 0 = nI k) (h2 : mi a 2 = nI h) (bk : k < 2 ^ 29) (bh : h < 2 ^ 29) (hp : post (some (.int (nI (if k = 1 then h / 3 else 0)))) mi ml mr dom) : CT G 1 0 0 yX3_strength cX3_strength 1 (some .int) [.ref a] mi ml mr dom post := by
  refine tX3_strength hk ?_
  rw [h0, h2, show (1 : Int32) = nI 1 from rfl, ife (by omega) (by omega), show (3 : Int32) = nI 3 from rfl, pk_div (by omega) (by omega) (by omega)]
  by_cases q : k = 1
  · rw [if_pos q]; rw [if_pos q] at hp; exact hp
  · rw [if_neg q]; rw [if_neg q] at hp; exact hp
theorem c_fineOver {a k h s : Nat} {b : Bool} (hk : kd a = 3) (h0 : mi a 0 = nI k) (h2 : mi a 2 = nI h) (bk : k < 2 ^ 29) (bh : h < 2 ^ 29) (bs : s < 2 ^ 29) (hp : post (some (.int (nI (fineO k h s b)))) mi ml mr dom) : CT G 2 0 0 yX3_fineOver cX3_fineOver 3 (some .int) [.ref a, .int (nI s), .int (nI (bN b))] mi ml mr dom post := by
  refine tX3_fineOver hk ?_
  rw [h0, h2, ifb, show (1 : Int32) = nI 1 from rfl, ife (by omega) (by omega), show (2 : Int32) = nI 2 from rfl, pk_div (by omega) (by omega) (by omega), imax_sub (by omega) bs]
  cases b with
  | false => rw [if_neg (by decide)]; exact hp
  | true =>
    rw [if_pos rfl]
    by_cases q : k = 1
    · rw [if_pos q]
      rw [show fineO k h s true = 0 by simp [fineO, q]] at hp; exact hp
    · rw [if_neg q]
      rw [show fineO k h s true = h / 2 - s by simp [fineO, q]] at hp; exact hp
theorem c_marksOver {a h s : Nat} (hk : kd a = 3) (h2 : mi a 2 = nI h) (bh : h < 2 ^ 28) (bs : s < 2 ^ 28) (hp : post (some (.int (nI (over h s)))) mi ml mr dom) : CT G 1 0 0 yX3_marksOver cX3_marksOver 4 (some .int) [.ref a, .int (nI s)] mi ml mr dom post := by
  refine enter 2 (by decide) rfl rfl (fun X => ?_)
  refine j_iconst (v := 0) dX3_marksOver_0 (by decide) ?_
  refine j_istore_n (lv2 := [_, _, _, _]) dX3_marksOver_1 rfl (by decide) rfl rfl ?_
  refine j_iconst (v := 0) dX3_marksOver_2 (by decide) ?_
  refine j_istore_n (lv2 := [_, _, _, _]) dX3_marksOver_3 rfl (by decide) rfl rfl ?_
  skip
  refine fu_loop (H := fun i c => J cX3_marksOver 4 yX3_marksOver.cls yX3_marksOver.name (some .int) 1 G X post 0 0 mi ml mr dom 4 [some (.ref a), some (.int (nI s)), some (.int (nI c)), some (.int (nI i))] []) (f := fun i c => if s + 10 * i < h then c + 1 else c) (n := 3) (a0 := 0) (fun i hi ih => ?_) ?_
  · skip
    refine j_iload_n dX3_marksOver_4 rfl rfl ?_
    refine j_iconst (v := 3) dX3_marksOver_5 (by decide) ?_
    refine j_icmp_ge (tgt := 31) dX3_marksOver_6 (by decide) (fun h6 => absurd h6 (nI_ge (b := 3) hi (by decide))) (fun _ => ?_)
    refine j_aload_n dX3_marksOver_9 rfl rfl ?_
    refine gI3_18 hk dX3_marksOver_10 ?_
    refine j_bipush (v := 10) dX3_marksOver_13 (by decide) ?_
    refine j_iload_n dX3_marksOver_15 rfl rfl ?_
    refine j_imul dX3_marksOver_16 ?_
    refine j_isub dX3_marksOver_17 ?_
    refine j_iload_n dX3_marksOver_18 rfl rfl ?_
    refine j_icmp_le (tgt := 25) dX3_marksOver_19 (by decide) (fun h19 => ?_) (fun h19 => ?_)
    · refine j_iinc1 (lv2 := [_, _, _, _]) dX3_marksOver_25 rfl (by decide) rfl rfl ?_
      refine j_goto (tgt := 4) dX3_marksOver_28 (by decide) ?_
      rw [nI_1]
      rw [h2, show (10 : Int32) = nI 10 from rfl, pk_mul, nI_subLe (by omega) (by omega) (by omega)] at h19
      simp only [fu] at ih
      first
        | rw [if_neg (by omega)] at ih; exact ih
        | rw [if_pos (by omega)] at ih; rw [nI_1]; exact ih
    · refine j_iinc1 (lv2 := [_, _, _, _]) dX3_marksOver_22 rfl (by decide) rfl rfl ?_
      refine j_iinc1 (lv2 := [_, _, _, _]) dX3_marksOver_25 rfl (by decide) rfl rfl ?_
      refine j_goto (tgt := 4) dX3_marksOver_28 (by decide) ?_
      rw [nI_1]
      rw [h2, show (10 : Int32) = nI 10 from rfl, pk_mul, nI_subLe (by omega) (by omega) (by omega)] at h19
      simp only [fu] at ih
      first
        | rw [if_neg (by omega)] at ih; exact ih
        | rw [if_pos (by omega)] at ih; rw [nI_1]; exact ih
  · have he : fu (fun i c => if s + 10 * i < h then c + 1 else c) 3 0 = over h s := by
      simp only [fu, over]
      repeat' split
      all_goals omega
    rw [he]
    refine j_iload_n dX3_marksOver_4 rfl rfl ?_
    refine j_iconst (v := 3) dX3_marksOver_5 (by decide) ?_
    refine j_icmp_ge (tgt := 31) dX3_marksOver_6 (by decide) (fun _ => ?_) (fun h6 => absurd (nI_le (a := 3) (b := 3) (Nat.le_refl 3) (by decide)) h6)
    refine j_iload_n dX3_marksOver_31 rfl rfl ?_
    refine j_iret rfl dX3_marksOver_32 ?_
    exact hp
theorem tX3_shows {a : Nat} {sill : Int32} {byDay : Int32} (hk : kd a = 3) {h s : Nat} (hs : sill = nI s) (h2 : mi a 2 = nI h) (bh : h < 2 ^ 28) (bs : s < 2 ^ 28) (hp : (if byDay = 0 then (if (mi a 0) = 2 then post (some (.int 7)) mi ml mr dom else post (some (.int 31)) mi ml mr dom) else post (some (.int ((1 <<< ((nI (over h s)) &&& 31)) - 1))) mi ml mr dom)) : CT G 2 0 0 yX3_shows cX3_shows 3 (some .int) [.ref a, .int sill, .int byDay] mi ml mr dom post := by
  refine enter 0 (by decide) rfl rfl (fun X => ?_)
  refine j_iload_n dX3_shows_0 rfl rfl ?_
  refine j_if_eq (tgt := 14) dX3_shows_1 (by decide) (fun h1 => ?_) (fun h1 => ?_)
  · refine j_aload_n dX3_shows_14 rfl rfl ?_
    refine gI3_9 hk dX3_shows_15 ?_
    refine j_iconst (v := 2) dX3_shows_18 (by decide) ?_
    refine j_icmp_ne (tgt := 27) dX3_shows_19 (by decide) (fun h2 => ?_) (fun h2 => ?_)
    · refine j_bipush (v := 31) dX3_shows_27 (by decide) ?_
      refine j_iret rfl dX3_shows_29 ?_
      rw [if_pos h1] at hp
      rw [if_neg h2] at hp
      exact hp
    · refine j_bipush (v := 7) dX3_shows_22 (by decide) ?_
      refine j_goto (tgt := 29) dX3_shows_24 (by decide) ?_
      refine j_iret rfl dX3_shows_29 ?_
      rw [if_pos h1] at hp
      rw [if_pos h2] at hp
      exact hp
  · refine j_iconst (v := 1) dX3_shows_4 (by decide) ?_
    refine j_aload_n dX3_shows_5 rfl rfl ?_
    refine j_iload_n dX3_shows_6 rfl rfl ?_
    refine cV3_25 (d1 := 1) hk dX3_shows_7 (by decide) (Nat.le_of_ble_eq_true rfl) ?_
    subst hs
    refine c_marksOver hk h2 bh bs ?_
    refine j_ishl dX3_shows_10 ?_
    refine j_iconst (v := 1) dX3_shows_11 (by decide) ?_
    refine j_isub dX3_shows_12 ?_
    refine j_iret rfl dX3_shows_13 ?_
    rw [if_neg h1] at hp
    exact hp
theorem shl_over : ∀ n, n ≤ 3 → (1 : Int32) <<< (nI n &&& 31) - 1 = nI (2 ^ n - 1) := by decide +kernel
theorem c_shows {a k h s : Nat} {b : Bool} (hk : kd a = 3) (h0 : mi a 0 = nI k) (h2 : mi a 2 = nI h) (bk : k < 2 ^ 29) (bh : h < 2 ^ 28) (bs : s < 2 ^ 28) (hp : post (some (.int (nI (shw k h s b)))) mi ml mr dom) : CT G 2 0 0 yX3_shows cX3_shows 3 (some .int) [.ref a, .int (nI s), .int (nI (bN b))] mi ml mr dom post := by
  refine tX3_shows hk rfl h2 bh bs ?_
  rw [ifb, h0, show (2 : Int32) = nI 2 from rfl, ife (by omega) (by omega), shl_over _ (over_le h s)]
  cases b with
  | true => rw [if_pos rfl]; exact hp
  | false =>
    rw [if_neg (by decide)]
    by_cases q : k = 2
    · rw [if_pos q]; rw [show shw k h s false = 7 by simp [shw, q]] at hp; exact hp
    · rw [if_neg q]; rw [show shw k h s false = 31 by simp [shw, q]] at hp; exact hp
theorem tX3_feet {a : Nat}  (hk : kd a = 3) (hm : mr a 3 = some (a + 10)) (hb : kd (a + 10) = 15) (h3 : vp_in 3 (ln (a + 10))) (h4 : vp_in 4 (ln (a + 10))) (hp : post (some (.int ((4 * (mi (a + 10) (Int32.toNatClampNeg 3))) + (mi (a + 10) (Int32.toNatClampNeg 4))))) mi ml mr dom) : CT G 1 0 0 yX3_feet cX3_feet 1 (some .int) [.ref a] mi ml mr dom post := by
  refine enter 0 (by decide) rfl rfl (fun X => ?_)
  refine j_iconst (v := 4) dX3_feet_0 (by decide) ?_
  refine j_aload_n dX3_feet_1 rfl rfl ?_
  refine gR3_21 hk dX3_feet_2 hm ?_
  refine j_iconst (v := 3) dX3_feet_5 (by decide) ?_
  refine j_iald hb (by assumption) dX3_feet_6 ?_
  refine j_imul dX3_feet_7 ?_
  refine j_aload_n dX3_feet_8 rfl rfl ?_
  refine gR3_21 hk dX3_feet_9 hm ?_
  refine j_iconst (v := 4) dX3_feet_12 (by decide) ?_
  refine j_iald hb (by assumption) dX3_feet_13 ?_
  refine j_iadd dX3_feet_14 ?_
  refine j_iret rfl dX3_feet_15 ?_
  exact hp
theorem c_feet {a : Nat} {m : Nat → Nat} (hk : kd a = 3) (hm : mr a 3 = some (a + 10)) (hb : kd (a + 10) = 15) (hl : ln (a + 10) = 5) (hv : ∀ i, i < 5 → mi (a + 10) i = nI (m i)) (hp : post (some (.int (nI (4 * m 3 + m 4)))) mi ml mr dom) : CT G 1 0 0 yX3_feet cX3_feet 1 (some .int) [.ref a] mi ml mr dom post := by
  refine tX3_feet hk hm hb (inT (n := 3) hl (by omega) (by omega)) (inT (n := 4) hl (by omega) (by omega)) ?_
  rw [show (Int32.toNatClampNeg 3) = 3 from rfl, show (Int32.toNatClampNeg 4) = 4 from rfl, hv 3 (by omega), hv 4 (by omega), show (4 : Int32) = nI 4 from rfl, pk_mul, nI_add]
  exact hp
theorem c_isLike {a a2 bits : Nat} {m m2 : Nat → Nat} (hk : kd a = 3) (hm : mr a 3 = some (a + 10)) (hb : kd (a + 10) = 15) (hl : ln (a + 10) = 5) (hv : ∀ i, i < 5 → mi (a + 10) i = nI (m i)) (hmb : ∀ i, i < 5 → m i < 2 ^ 31) (hk2 : kd a2 = 3) (hm2 : mr a2 3 = some (a2 + 10)) (hb2 : kd (a2 + 10) = 15) (hl2 : ln (a2 + 10) = 5) (hv2 : ∀ i, i < 5 → mi (a2 + 10) i = nI (m2 i)) (hmb2 : ∀ i, i < 5 → m2 i < 2 ^ 31) (hbits : bits < 64) (hp : post (some (.int (nI (bN (like m m2 bits))))) mi ml mr dom) : CT G 1 0 0 yX3_isLike cX3_isLike 4 (some .boolean) [.ref a, .ref a2, .int (nI bits)] mi ml mr dom post := by
  refine enter 1 (by decide) rfl rfl (fun X => ?_)
  refine j_iconst (v := 0) dX3_isLike_0 (by decide) ?_
  refine j_istore_n (lv2 := [_, _, _, _]) dX3_isLike_1 rfl (by decide) rfl rfl ?_
  skip
  have key : ∀ k, k ≤ 5 → (∀ j, j < 5 - k → bits.testBit j = true → m j = m2 j) → J cX3_isLike 4 yX3_isLike.cls yX3_isLike.name (some .boolean) 1 G X post 0 0 mi ml mr dom 2 [some (.ref a), some (.ref a2), some (.int (nI bits)), some (.int (nI (5 - k)))] [] := by
    intro k
    induction k with
    | zero =>
      intro _ hall
      have hf : like m m2 bits = true := by
        rw [like, List.all_eq_true]
        intro j hj
        have hj := List.mem_range.mp hj
        cases hb9 : bits.testBit j with
        | false => rfl
        | true => simp [hall j hj hb9]
      rw [hf] at hp
      refine j_iload_n dX3_isLike_2 rfl rfl ?_
      refine j_iconst (v := 5) dX3_isLike_3 (by decide) ?_
      refine j_icmp_ge (tgt := 39) dX3_isLike_4 (by decide) (fun _ => ?_) (fun h4 => absurd (nI_le (a := 5) (b := 5) (Nat.le_refl 5) (by decide)) h4)
      refine j_iconst (v := 1) dX3_isLike_39 (by decide) ?_
      refine j_zret rfl (by decide) dX3_isLike_40 ?_
      exact hp
    | succ k ih0 =>
      intro hk9 hall
      obtain ⟨i, hie⟩ : ∃ i, i = 5 - (k + 1) := ⟨_, rfl⟩
      have hi : i < 5 := by omega
      have ih : (bits.testBit i = true → m i = m2 i) → J cX3_isLike 4 yX3_isLike.cls yX3_isLike.name (some .boolean) 1 G X post 0 0 mi ml mr dom 2 [some (.ref a), some (.ref a2), some (.int (nI bits)), some (.int (nI (i + 1)))] [] := by
        intro hi9
        have := ih0 (by omega) (fun j hj hb9 => by
          by_cases hji : j = i
          · subst hji; exact hi9 hb9
          · exact hall j (by omega) hb9)
        rwa [show 5 - k = i + 1 by omega] at this
      rw [← hie]
      refine j_iload_n dX3_isLike_2 rfl rfl ?_
      refine j_iconst (v := 5) dX3_isLike_3 (by decide) ?_
      refine j_icmp_ge (tgt := 39) dX3_isLike_4 (by decide) (fun h4 => absurd h4 (nI_ge (b := 5) hi (by decide))) (fun _ => ?_)
      refine j_iload_n dX3_isLike_7 rfl rfl ?_
      refine j_iload_n dX3_isLike_8 rfl rfl ?_
      refine j_ishr dX3_isLike_9 ?_
      refine j_iconst (v := 1) dX3_isLike_10 (by decide) ?_
      refine j_iand dX3_isLike_11 ?_
      refine j_iconst (v := 1) dX3_isLike_12 (by decide) ?_
      refine j_icmp_ne (tgt := 33) dX3_isLike_13 (by decide) (fun h13 => ?_) (fun h13 => ?_)
      · refine j_iinc1 (lv2 := [_, _, _, _]) dX3_isLike_33 rfl (by decide) rfl rfl ?_
        refine j_goto (tgt := 2) dX3_isLike_36 (by decide) ?_
        rw [nI_1]
        first
          | exact ih (by rw [show (1 : Int32) = nI 1 from rfl] at h13; intro hb1; exact absurd ((bit_tst bits hbits i (by omega)).symm ▸ hb1) h13)
          | exact ih (fun _ => by rw [nI_clamp (by omega), hv i hi, hv2 i hi, nI_eq (hmb i hi) (hmb2 i hi)] at h28; exact h28)
      · refine j_aload_n dX3_isLike_16 rfl rfl ?_
        refine gR3_21 hk dX3_isLike_17 hm ?_
        refine j_iload_n dX3_isLike_20 rfl rfl ?_
        refine j_iald hb (inT hl hi (by omega)) dX3_isLike_21 ?_
        refine j_aload_n dX3_isLike_22 rfl rfl ?_
        refine gR3_21 hk2 dX3_isLike_23 hm2 ?_
        refine j_iload_n dX3_isLike_26 rfl rfl ?_
        refine j_iald hb2 (inT hl2 hi (by omega)) dX3_isLike_27 ?_
        refine j_icmp_eq (tgt := 33) dX3_isLike_28 (by decide) (fun h28 => ?_) (fun h28 => ?_)
        · refine j_iinc1 (lv2 := [_, _, _, _]) dX3_isLike_33 rfl (by decide) rfl rfl ?_
          refine j_goto (tgt := 2) dX3_isLike_36 (by decide) ?_
          rw [nI_1]
          first
            | exact ih (by rw [show (1 : Int32) = nI 1 from rfl] at h13; intro hb1; exact absurd ((bit_tst bits hbits i (by omega)).symm ▸ hb1) h13)
            | exact ih (fun _ => by rw [nI_clamp (by omega), hv i hi, hv2 i hi, nI_eq (hmb i hi) (hmb2 i hi)] at h28; exact h28)
        · refine j_iconst (v := 0) dX3_isLike_31 (by decide) ?_
          refine j_zret rfl (by decide) dX3_isLike_32 ?_
          have hf : like m m2 bits = false := by
            rw [like, List.all_eq_false]
            refine ⟨i, List.mem_range.mpr hi, ?_⟩
            rw [nI_clamp (by omega), hv i hi, hv2 i hi, nI_eq (hmb i hi) (hmb2 i hi)] at h28
            rw [bit_tst bits hbits i (by omega)] at h13
            simp [h13, h28]
          rw [hf] at hp
          exact hp
  exact key 5 (Nat.le_refl 5) (fun j hj => by omega)
end C3
