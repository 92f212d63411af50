/-! PURE: loops, numbers; JDK methods' contracts -/
def fu {σ : Type} (f : Nat → σ → σ) : Nat → σ → σ
  | 0, a => a
  | n + 1, a => f n (fu f n a)
theorem fu_loop {σ : Type} {H : Nat → σ → Prop} {f : Nat → σ → σ} {n : Nat} {a0 : σ} (step : ∀ i, i < n → H (i + 1) (fu f (i + 1) a0) → H i (fu f i a0)) (ex : H n (fu f n a0)) : H 0 a0 := by
  have key : ∀ k, k ≤ n → H (n - k) (fu f (n - k) a0) := by
    intro k
    induction k with
    | zero => intro _; exact ex
    | succ k ih =>
      intro hk
      refine step (n - (k + 1)) (by omega) ?_
      rw [show n - (k + 1) + 1 = n - k by omega]
      exact ih (by omega)
  have := key n (Nat.le_refl n)
  rw [Nat.sub_self] at this
  exact this
/-- a loop by an invariant that falls from n to 0 -/
theorem inv_loop {H I : Nat → Prop} {n : Nat} (h0 : I 0) (hs : ∀ i, i < n → I i → I (i + 1)) (step : ∀ i, i < n → I i → H (i + 1) → H i) (ex : I n → H n) : H 0 := by
  have hI : ∀ i, i ≤ n → I i := by
    intro i
    induction i with
    | zero => intro _; exact h0
    | succ i ih => intro hi; exact hs i (by omega) (ih (by omega))
  have key : ∀ k, k ≤ n → H (n - k) := by
    intro k
    induction k with
    | zero => intro _; exact ex (hI n (Nat.le_refl n))
    | succ k ih =>
      intro hk
      refine step (n - (k + 1)) (by omega) (hI _ (by omega)) ?_
      rw [show n - (k + 1) + 1 = n - k by omega]
      exact ih (by omega)
  have := key n (Nat.le_refl n)
  rw [Nat.sub_self] at this
  exact this
theorem imax_nI {a b : Nat} (ha : a < 2 ^ 31) (hb : b < 2 ^ 31) : imax (nI a) (nI b) = nI (max a b) := by
  unfold imax
  by_cases h : a < b
  · rw [if_pos ((nI_ltI ha hb).mpr h), Nat.max_eq_right (by omega)]
  · rw [if_neg (fun q => h ((nI_ltI ha hb).mp q)), Nat.max_eq_left (by omega)]
theorem imin_nI {a b : Nat} (ha : a < 2 ^ 31) (hb : b < 2 ^ 31) : imin (nI a) (nI b) = nI (min a b) := by
  unfold imin
  by_cases h : b < a
  · rw [if_pos ((nI_ltI hb ha).mpr h), Nat.min_eq_right (by omega)]
  · rw [if_neg (fun q => h ((nI_ltI hb ha).mp q)), Nat.min_eq_left (by omega)]
def bc32 (x0 : Int32) : Int32 :=
  let a := x0 - ((x0.toUInt32 >>> ((1 : Int32).toUInt32 &&& Int32.toUInt32 31)).toInt32 &&& 1431655765)
  let b := (a &&& 858993459) + ((a.toUInt32 >>> ((2 : Int32).toUInt32 &&& Int32.toUInt32 31)).toInt32 &&& 858993459)
  let c := (b + (b.toUInt32 >>> ((4 : Int32).toUInt32 &&& Int32.toUInt32 31)).toInt32) &&& 252645135
  let d := c + (c.toUInt32 >>> ((8 : Int32).toUInt32 &&& Int32.toUInt32 31)).toInt32
  let e := d + (d.toUInt32 >>> ((16 : Int32).toUInt32 &&& Int32.toUInt32 31)).toInt32
  e &&& 63
/-- how many bits -/
def popc (n : Nat) : Nat := fu (fun i c => if n.testBit i then c + 1 else c) 6 0
theorem bc32_nI : ∀ n, n < 64 → bc32 (nI n) = nI (popc n) := by decide +kernel
def fillm (mi : MI) (a : Nat) (x : Int32) (k : Nat) : MI := fun n i => if n = a then (if i < k then x else mi n i) else mi n i
theorem fillm_0 (mi : MI) (a : Nat) (x : Int32) : fillm mi a x 0 = mi := by funext n i; unfold fillm; split <;> simp
theorem fillm_s (mi : MI) (a : Nat) (x : Int32) (k : Nat) : up (fillm mi a x k) a k x = fillm mi a x (k + 1) := by
  funext n i
  unfold up fillm
  by_cases h : n = a
  · subst h
    simp only [if_true]
    by_cases h1 : i = k
    · subst h1; simp
    · by_cases h2 : i < k
      · simp [h1, h2, Nat.lt_succ_of_lt h2]
      · simp [h1, h2]; intro h3; omega
  · simp [h]
section JD
variable {G : GG} {post : PT} {mi : MI} {ml : ML} {mr : MR} {dom : List Nat}

theorem c_bitCount {x : Int32} (hp : post (some (.int (bc32 x))) mi ml mr dom) : CT G 1 0 0 yJ_bitCount cJ_bitCount 1 (some .int) [.int x] mi ml mr dom post := by
  refine enter 0 (by decide) rfl rfl (fun X => ?_)
  refine j_iload_n dJ_bitCount_0 rfl rfl ?_
  refine j_iload_n dJ_bitCount_1 rfl rfl ?_
  refine j_iconst (v := 1) dJ_bitCount_2 (by decide) ?_
  refine j_iushr dJ_bitCount_3 ?_
  refine j_ldcw wd904 dJ_bitCount_4 ?_
  refine j_iand dJ_bitCount_7 ?_
  refine j_isub dJ_bitCount_8 ?_
  refine j_istore_n (lv2 := [_]) dJ_bitCount_9 rfl (by decide) rfl rfl ?_
  refine j_iload_n dJ_bitCount_10 rfl rfl ?_
  refine j_ldcw wd905 dJ_bitCount_11 ?_
  refine j_iand dJ_bitCount_14 ?_
  refine j_iload_n dJ_bitCount_15 rfl rfl ?_
  refine j_iconst (v := 2) dJ_bitCount_16 (by decide) ?_
  refine j_iushr dJ_bitCount_17 ?_
  refine j_ldcw wd905 dJ_bitCount_18 ?_
  refine j_iand dJ_bitCount_21 ?_
  refine j_iadd dJ_bitCount_22 ?_
  refine j_istore_n (lv2 := [_]) dJ_bitCount_23 rfl (by decide) rfl rfl ?_
  refine j_iload_n dJ_bitCount_24 rfl rfl ?_
  refine j_iload_n dJ_bitCount_25 rfl rfl ?_
  refine j_iconst (v := 4) dJ_bitCount_26 (by decide) ?_
  refine j_iushr dJ_bitCount_27 ?_
  refine j_iadd dJ_bitCount_28 ?_
  refine j_ldcw wd906 dJ_bitCount_29 ?_
  refine j_iand dJ_bitCount_32 ?_
  refine j_istore_n (lv2 := [_]) dJ_bitCount_33 rfl (by decide) rfl rfl ?_
  refine j_iload_n dJ_bitCount_34 rfl rfl ?_
  refine j_iload_n dJ_bitCount_35 rfl rfl ?_
  refine j_bipush (v := 8) dJ_bitCount_36 (by decide) ?_
  refine j_iushr dJ_bitCount_38 ?_
  refine j_iadd dJ_bitCount_39 ?_
  refine j_istore_n (lv2 := [_]) dJ_bitCount_40 rfl (by decide) rfl rfl ?_
  refine j_iload_n dJ_bitCount_41 rfl rfl ?_
  refine j_iload_n dJ_bitCount_42 rfl rfl ?_
  refine j_bipush (v := 16) dJ_bitCount_43 (by decide) ?_
  refine j_iushr dJ_bitCount_45 ?_
  refine j_iadd dJ_bitCount_46 ?_
  refine j_istore_n (lv2 := [_]) dJ_bitCount_47 rfl (by decide) rfl rfl ?_
  refine j_iload_n dJ_bitCount_48 rfl rfl ?_
  refine j_bipush (v := 63) dJ_bitCount_49 (by decide) ?_
  refine j_iand dJ_bitCount_51 ?_
  refine j_iret rfl dJ_bitCount_52 ?_
  exact hp
theorem c_fill {a : Nat} {x : Int32} (hk : kd a = 15) (hln : ln a < 2 ^ 20) (hp : post none (fillm mi a x (ln a)) ml mr dom) : CT G 1 0 0 yJ_fill cJ_fill 4 none [.ref a, .int x] mi ml mr dom post := by
  refine enter 2 (by decide) rfl rfl (fun X => ?_)
  refine j_iconst (v := 0) dJ_fill_0 (by decide) ?_
  refine j_istore_n (lv2 := [_, _, _, _]) dJ_fill_1 rfl (by decide) rfl rfl ?_
  refine j_aload_n dJ_fill_2 rfl rfl ?_
  refine j_alenI hk rfl dJ_fill_3 ?_
  refine j_istore_n (lv2 := [_, _, _, _]) dJ_fill_4 rfl (by decide) rfl rfl ?_
  skip
  have hl : Int32.ofNat (ln a) = nI (ln a) := rfl
  rw [hl]
  have h0 : J cJ_fill 4 yJ_fill.cls yJ_fill.name none 1 G X post 0 0 (fillm mi a x 0) ml mr dom 5 [some (.ref a), some (.int x), some (.int (nI 0)), some (.int (nI (ln a)))] [] := by
    refine inv_loop (n := ln a) (I := fun _ => True) (H := fun i => J cJ_fill 4 yJ_fill.cls yJ_fill.name none 1 G X post 0 0 (fillm mi a x i) ml mr dom 5 [some (.ref a), some (.int x), some (.int (nI i)), some (.int (nI (ln a)))] []) trivial (fun _ _ _ => trivial) (fun i hi _ ih => ?_) (fun _ => ?_)
    · skip
      refine j_iload_n dJ_fill_5 rfl rfl ?_
      refine j_iload_n dJ_fill_6 rfl rfl ?_
      refine j_icmp_ge (tgt := 20) dJ_fill_7 (by decide) (fun h7 => absurd h7 (nI_ge hi (by omega))) (fun _ => ?_)
      refine j_aload_n dJ_fill_10 rfl rfl ?_
      refine j_iload_n dJ_fill_11 rfl rfl ?_
      refine j_iload_n dJ_fill_12 rfl rfl ?_
      refine j_iast hk (vp_in_nI hi (by omega)) dJ_fill_13 ?_
      refine j_iinc1 (lv2 := [_, _, _, _]) dJ_fill_14 rfl (by decide) rfl rfl ?_
      refine j_goto (tgt := 5) dJ_fill_17 (by decide) ?_
      simp only [nI_clamp (show i < 2 ^ 31 by omega), fillm_s, nI_1]
      exact ih
    · skip
      refine j_iload_n dJ_fill_5 rfl rfl ?_
      refine j_iload_n dJ_fill_6 rfl rfl ?_
      refine j_icmp_ge (tgt := 20) dJ_fill_7 (by decide) (fun _ => ?_) (fun h7 => absurd (nI_le (Nat.le_refl _) (by omega)) h7)
      refine j_vret rfl dJ_fill_20 ?_
      exact hp
  rw [fillm_0] at h0
  exact h0
end JD
