/-! the class: town, feed, wayAt -/
/-- a byte out of an int -/
def by8 (y : Int32) : Nat := y.toBitVec.toNat % 256
theorem by8_lt (y : Int32) : by8 y < 256 := Nat.mod_lt _ (by decide)
theorem by8_8 (y : Int32) : y.toInt8 = (nI (by8 y)).toInt8 := by
  apply Int8.toBitVec_inj.mp
  rw [Int32.toBitVec_toInt8, Int32.toBitVec_toInt8]
  rw [BitVec.signExtend_eq_setWidth_of_le _ (by decide), BitVec.signExtend_eq_setWidth_of_le _ (by decide)]
  apply BitVec.eq_of_toNat_eq
  rw [BitVec.toNat_setWidth, BitVec.toNat_setWidth]
  show _ = (Int32.ofNat (by8 y)).toBitVec.toNat % 2 ^ 8
  rw [Int32.toBitVec_ofNat', BitVec.toNat_ofNat]
  unfold by8; omega
/-- what is laid on the tape -/
def bv (x s : Int32) : Int32 := (x >>> (s &&& 31)).toInt8.toInt32.toInt8.toInt32
theorem bv_sx (x s : Int32) : bv x s = sx (by8 (bv x s)) := by
  have h : ∀ y : Int8, y.toInt32.toInt8 = y := fun y => by simp
  unfold sx
  rw [← by8_8]
  unfold bv; rw [h, h]
def TP (F : Nat → Int32) : Prop := ∀ i, F i = sx (by8 (F i))
/-- an int, laid on a tape by its four bytes -/
def pb (f : Nat → Int32) (k : Nat) (x : Int32) : Nat → Int32 := upd (upd (upd (upd f k (bv x 24)) (k + 1) (bv x 16)) (k + 2) (bv x 8)) (k + 3) (bv x 0)
theorem TP.ud {F : Nat → Int32} (h : TP F) (k : Nat) (x s : Int32) : TP (upd F k (bv x s)) := fun i => by
  unfold upd; split
  · exact bv_sx x s
  · exact h i
theorem TP.pB {F : Nat → Int32} (h : TP F) (k : Nat) (x : Int32) : TP (pb F k x) := (((h.ud k x 24).ud (k + 1) x 16).ud (k + 2) x 8).ud (k + 3) x 0
section C11t
variable {G : GG} {post : PT} {mi : MI} {ml : ML} {mr : MR} {dom : List Nat} {B : Nat → Nat} {n p T T' : Nat} {N : NS} {t : TW}
theorem c_putBytes (hX : XR mr) {k : Nat} {x : Int32} (h0 : mi 0 1 = nI k) (hk : k + 4 ≤ 1100) (hp : ∀ m : MI, (∀ z, z ≠ 0 → z ≠ 1 → m z = mi z) → m 1 = pb (mi 1) k x → m 0 1 = nI (k + 4) → (∀ i, i ≠ 1 → m 0 i = mi 0 i) → post none m ml mr dom) : CT G 1 0 0 yX11_putBytes cX11_putBytes 3 none [.ref 0, .int x] mi ml mr dom post := by
  obtain ⟨m0, q0⟩ : ∃ m, m = mi := ⟨_, rfl⟩
  have a0 : m0 0 1 = nI (k + 0) := by rw [q0]; exact h0
  have o0 : ∀ z, z ≠ 0 → z ≠ 1 → m0 z = mi z := fun z _ _ => by rw [q0]
  have z0 : ∀ i, i ≠ 1 → m0 0 i = mi 0 i := fun i _ => by rw [q0]
  suffices hs : CT G 1 0 0 yX11_putBytes cX11_putBytes 3 none [.ref 0, .int x] m0 ml mr dom post by rw [q0] at hs; exact hs
  refine enter 1 (by decide) rfl rfl (fun X => ?_)
  refine j_bipush (v := 24) dX11_putBytes_0 (by decide) ?_
  refine j_istore_n (lv2 := [_, _, _]) dX11_putBytes_2 rfl (by decide) rfl rfl ?_
  refine j_iload_n dX11_putBytes_3 rfl rfl ?_
  refine j_if_lt (tgt := 46) dX11_putBytes_4 (by decide) (fun h4 => absurd h4 (by decide)) (fun _ => ?_)
  refine j_aload_n dX11_putBytes_7 rfl rfl ?_
  refine gI11_13 rfl dX11_putBytes_8 ?_
  rw [a0]
  refine j_sipush (v := 1100) dX11_putBytes_11 (by decide) ?_
  refine j_icmp_ge (tgt := 40) dX11_putBytes_14 (by decide) (fun h14 => absurd h14 (nI_ge (b := 1100) (by omega) (by decide))) (fun _ => ?_)
  refine j_aload_n dX11_putBytes_17 rfl rfl ?_
  refine gR11_9 rfl dX11_putBytes_18 (x_tape hX) ?_
  refine j_aload_n dX11_putBytes_21 rfl rfl ?_
  refine gI11_13 rfl dX11_putBytes_22 ?_
  rw [a0]
  refine j_iload_n dX11_putBytes_25 rfl rfl ?_
  refine j_iload_n dX11_putBytes_26 rfl rfl ?_
  refine j_ishr dX11_putBytes_27 ?_
  refine j_i2b dX11_putBytes_28 ?_
  refine j_bast rfl (inT (show ln 1 = 1100 from rfl) (show k + 0 < 1100 by omega) (by decide)) dX11_putBytes_29 ?_
  rw [nI_clamp (by omega), show ((x >>> (24 &&& 31)).toInt8.toInt32).toInt8.toInt32 = bv x 24 from rfl]
  refine j_aload_n dX11_putBytes_30 rfl rfl ?_
  refine j_dup dX11_putBytes_31 rfl ?_
  refine gI11_13 rfl dX11_putBytes_32 ?_
  rw [up_off _ _ (by decide), a0]
  refine j_iconst (v := 1) dX11_putBytes_35 (by decide) ?_
  refine j_iadd dX11_putBytes_36 ?_
  rw [nI_1]
  refine pI11_13 rfl dX11_putBytes_37 ?_
  obtain ⟨m1, q1⟩ : ∃ m, m = up (up m0 1 (k + 0) (bv x 24)) 0 1 (nI (k + 0 + 1)) := ⟨_, rfl⟩
  rw [← q1]
  have a1 : m1 0 1 = nI (k + 1) := by rw [q1, up_at]
  have o1 : ∀ z, z ≠ 0 → z ≠ 1 → m1 z = mi z := fun z h0 h1 => by rw [q1, up_off _ _ h0, up_off _ _ h1]; exact o0 z h0 h1
  have z1 : ∀ i, i ≠ 1 → m1 0 i = mi 0 i := fun i hi => by rw [q1, up_ne _ _ hi, up_off _ _ (by decide)]; exact z0 i hi
  have t1 : m1 1 = upd (m0 1) (k + 0) (bv x 24) := by rw [q1, up_off _ _ (by decide), up_row]
  refine j_iinc (lv2 := [_, _, _]) dX11_putBytes_40 rfl rfl (by decide) rfl rfl ?_
  rw [show (24 : Int32) + Int32.ofInt (-8) = 16 from rfl]
  refine j_goto (tgt := 3) dX11_putBytes_43 (by decide) ?_
  refine j_iload_n dX11_putBytes_3 rfl rfl ?_
  refine j_if_lt (tgt := 46) dX11_putBytes_4 (by decide) (fun h4 => absurd h4 (by decide)) (fun _ => ?_)
  refine j_aload_n dX11_putBytes_7 rfl rfl ?_
  refine gI11_13 rfl dX11_putBytes_8 ?_
  rw [a1]
  refine j_sipush (v := 1100) dX11_putBytes_11 (by decide) ?_
  refine j_icmp_ge (tgt := 40) dX11_putBytes_14 (by decide) (fun h14 => absurd h14 (nI_ge (b := 1100) (by omega) (by decide))) (fun _ => ?_)
  refine j_aload_n dX11_putBytes_17 rfl rfl ?_
  refine gR11_9 rfl dX11_putBytes_18 (x_tape hX) ?_
  refine j_aload_n dX11_putBytes_21 rfl rfl ?_
  refine gI11_13 rfl dX11_putBytes_22 ?_
  rw [a1]
  refine j_iload_n dX11_putBytes_25 rfl rfl ?_
  refine j_iload_n dX11_putBytes_26 rfl rfl ?_
  refine j_ishr dX11_putBytes_27 ?_
  refine j_i2b dX11_putBytes_28 ?_
  refine j_bast rfl (inT (show ln 1 = 1100 from rfl) (show k + 1 < 1100 by omega) (by decide)) dX11_putBytes_29 ?_
  rw [nI_clamp (by omega), show ((x >>> (16 &&& 31)).toInt8.toInt32).toInt8.toInt32 = bv x 16 from rfl]
  refine j_aload_n dX11_putBytes_30 rfl rfl ?_
  refine j_dup dX11_putBytes_31 rfl ?_
  refine gI11_13 rfl dX11_putBytes_32 ?_
  rw [up_off _ _ (by decide), a1]
  refine j_iconst (v := 1) dX11_putBytes_35 (by decide) ?_
  refine j_iadd dX11_putBytes_36 ?_
  rw [nI_1]
  refine pI11_13 rfl dX11_putBytes_37 ?_
  obtain ⟨m2, q2⟩ : ∃ m, m = up (up m1 1 (k + 1) (bv x 16)) 0 1 (nI (k + 1 + 1)) := ⟨_, rfl⟩
  rw [← q2]
  have a2 : m2 0 1 = nI (k + 2) := by rw [q2, up_at]
  have o2 : ∀ z, z ≠ 0 → z ≠ 1 → m2 z = mi z := fun z h0 h1 => by rw [q2, up_off _ _ h0, up_off _ _ h1]; exact o1 z h0 h1
  have z2 : ∀ i, i ≠ 1 → m2 0 i = mi 0 i := fun i hi => by rw [q2, up_ne _ _ hi, up_off _ _ (by decide)]; exact z1 i hi
  have t2 : m2 1 = upd (m1 1) (k + 1) (bv x 16) := by rw [q2, up_off _ _ (by decide), up_row]
  refine j_iinc (lv2 := [_, _, _]) dX11_putBytes_40 rfl rfl (by decide) rfl rfl ?_
  rw [show (16 : Int32) + Int32.ofInt (-8) = 8 from rfl]
  refine j_goto (tgt := 3) dX11_putBytes_43 (by decide) ?_
  refine j_iload_n dX11_putBytes_3 rfl rfl ?_
  refine j_if_lt (tgt := 46) dX11_putBytes_4 (by decide) (fun h4 => absurd h4 (by decide)) (fun _ => ?_)
  refine j_aload_n dX11_putBytes_7 rfl rfl ?_
  refine gI11_13 rfl dX11_putBytes_8 ?_
  rw [a2]
  refine j_sipush (v := 1100) dX11_putBytes_11 (by decide) ?_
  refine j_icmp_ge (tgt := 40) dX11_putBytes_14 (by decide) (fun h14 => absurd h14 (nI_ge (b := 1100) (by omega) (by decide))) (fun _ => ?_)
  refine j_aload_n dX11_putBytes_17 rfl rfl ?_
  refine gR11_9 rfl dX11_putBytes_18 (x_tape hX) ?_
  refine j_aload_n dX11_putBytes_21 rfl rfl ?_
  refine gI11_13 rfl dX11_putBytes_22 ?_
  rw [a2]
  refine j_iload_n dX11_putBytes_25 rfl rfl ?_
  refine j_iload_n dX11_putBytes_26 rfl rfl ?_
  refine j_ishr dX11_putBytes_27 ?_
  refine j_i2b dX11_putBytes_28 ?_
  refine j_bast rfl (inT (show ln 1 = 1100 from rfl) (show k + 2 < 1100 by omega) (by decide)) dX11_putBytes_29 ?_
  rw [nI_clamp (by omega), show ((x >>> (8 &&& 31)).toInt8.toInt32).toInt8.toInt32 = bv x 8 from rfl]
  refine j_aload_n dX11_putBytes_30 rfl rfl ?_
  refine j_dup dX11_putBytes_31 rfl ?_
  refine gI11_13 rfl dX11_putBytes_32 ?_
  rw [up_off _ _ (by decide), a2]
  refine j_iconst (v := 1) dX11_putBytes_35 (by decide) ?_
  refine j_iadd dX11_putBytes_36 ?_
  rw [nI_1]
  refine pI11_13 rfl dX11_putBytes_37 ?_
  obtain ⟨m3, q3⟩ : ∃ m, m = up (up m2 1 (k + 2) (bv x 8)) 0 1 (nI (k + 2 + 1)) := ⟨_, rfl⟩
  rw [← q3]
  have a3 : m3 0 1 = nI (k + 3) := by rw [q3, up_at]
  have o3 : ∀ z, z ≠ 0 → z ≠ 1 → m3 z = mi z := fun z h0 h1 => by rw [q3, up_off _ _ h0, up_off _ _ h1]; exact o2 z h0 h1
  have z3 : ∀ i, i ≠ 1 → m3 0 i = mi 0 i := fun i hi => by rw [q3, up_ne _ _ hi, up_off _ _ (by decide)]; exact z2 i hi
  have t3 : m3 1 = upd (m2 1) (k + 2) (bv x 8) := by rw [q3, up_off _ _ (by decide), up_row]
  refine j_iinc (lv2 := [_, _, _]) dX11_putBytes_40 rfl rfl (by decide) rfl rfl ?_
  rw [show (8 : Int32) + Int32.ofInt (-8) = 0 from rfl]
  refine j_goto (tgt := 3) dX11_putBytes_43 (by decide) ?_
  refine j_iload_n dX11_putBytes_3 rfl rfl ?_
  refine j_if_lt (tgt := 46) dX11_putBytes_4 (by decide) (fun h4 => absurd h4 (by decide)) (fun _ => ?_)
  refine j_aload_n dX11_putBytes_7 rfl rfl ?_
  refine gI11_13 rfl dX11_putBytes_8 ?_
  rw [a3]
  refine j_sipush (v := 1100) dX11_putBytes_11 (by decide) ?_
  refine j_icmp_ge (tgt := 40) dX11_putBytes_14 (by decide) (fun h14 => absurd h14 (nI_ge (b := 1100) (by omega) (by decide))) (fun _ => ?_)
  refine j_aload_n dX11_putBytes_17 rfl rfl ?_
  refine gR11_9 rfl dX11_putBytes_18 (x_tape hX) ?_
  refine j_aload_n dX11_putBytes_21 rfl rfl ?_
  refine gI11_13 rfl dX11_putBytes_22 ?_
  rw [a3]
  refine j_iload_n dX11_putBytes_25 rfl rfl ?_
  refine j_iload_n dX11_putBytes_26 rfl rfl ?_
  refine j_ishr dX11_putBytes_27 ?_
  refine j_i2b dX11_putBytes_28 ?_
  refine j_bast rfl (inT (show ln 1 = 1100 from rfl) (show k + 3 < 1100 by omega) (by decide)) dX11_putBytes_29 ?_
  rw [nI_clamp (by omega), show ((x >>> (0 &&& 31)).toInt8.toInt32).toInt8.toInt32 = bv x 0 from rfl]
  refine j_aload_n dX11_putBytes_30 rfl rfl ?_
  refine j_dup dX11_putBytes_31 rfl ?_
  refine gI11_13 rfl dX11_putBytes_32 ?_
  rw [up_off _ _ (by decide), a3]
  refine j_iconst (v := 1) dX11_putBytes_35 (by decide) ?_
  refine j_iadd dX11_putBytes_36 ?_
  rw [nI_1]
  refine pI11_13 rfl dX11_putBytes_37 ?_
  obtain ⟨m4, q4⟩ : ∃ m, m = up (up m3 1 (k + 3) (bv x 0)) 0 1 (nI (k + 3 + 1)) := ⟨_, rfl⟩
  rw [← q4]
  have a4 : m4 0 1 = nI (k + 4) := by rw [q4, up_at]
  have o4 : ∀ z, z ≠ 0 → z ≠ 1 → m4 z = mi z := fun z h0 h1 => by rw [q4, up_off _ _ h0, up_off _ _ h1]; exact o3 z h0 h1
  have z4 : ∀ i, i ≠ 1 → m4 0 i = mi 0 i := fun i hi => by rw [q4, up_ne _ _ hi, up_off _ _ (by decide)]; exact z3 i hi
  have t4 : m4 1 = upd (m3 1) (k + 3) (bv x 0) := by rw [q4, up_off _ _ (by decide), up_row]
  refine j_iinc (lv2 := [_, _, _]) dX11_putBytes_40 rfl rfl (by decide) rfl rfl ?_
  rw [show (0 : Int32) + Int32.ofInt (-8) = -8 from rfl]
  refine j_goto (tgt := 3) dX11_putBytes_43 (by decide) ?_
  refine j_iload_n dX11_putBytes_3 rfl rfl ?_
  refine j_if_lt (tgt := 46) dX11_putBytes_4 (by decide) (fun _ => ?_) (fun h4 => absurd (by decide) h4)
  refine j_vret rfl dX11_putBytes_46 ?_
  exact hp m4 o4 (by rw [t4, t3, t2, t1, q0]; rfl) a4 z4
theorem cx_feed (hX : XR mr) {k : Nat} {a b c d e : Int32} (h0 : mi 0 1 = nI k) (hk : k + 20 ≤ 1100) (hp : ∀ m : MI, (∀ z, z ≠ 0 → z ≠ 1 → m z = mi z) → m 1 = pb (pb (pb (pb (pb (mi 1) k a) (k + 4) b) (k + 8) c) (k + 12) d) (k + 16) e → m 0 1 = nI (k + 20) → (∀ i, i ≠ 1 → m 0 i = mi 0 i) → post (some (.int (nI (k + 20)))) m ml mr dom) : CT G 2 0 0 yX11_feed cX11_feed 6 (some .int) [.ref 0, .int a, .int b, .int c, .int d, .int e] mi ml mr dom post := by
  have a0 : mi 0 1 = nI (k + 4 * 0) := h0
  refine enter 0 (by decide) rfl rfl (fun X => ?_)
  refine j_aload_n dX11_feed_0 rfl rfl ?_
  refine gI11_13 rfl dX11_feed_1 ?_
  rw [a0]
  refine j_bipush (v := 20) dX11_feed_4 (by decide) ?_
  refine j_iadd dX11_feed_6 ?_
  refine j_sipush (v := 1100) dX11_feed_7 (by decide) ?_
  rw [show (20 : Int32) = nI 20 from rfl, nI_add]
  refine j_icmp_le (tgt := 15) dX11_feed_10 (by decide) (fun _ => ?_) (fun h10 => absurd (nI_le (by omega) (by decide)) h10)
  refine j_aload_n dX11_feed_15 rfl rfl ?_
  refine j_iload_n dX11_feed_16 rfl rfl ?_
  refine cV11_71 (d1 := 1) rfl dX11_feed_17 (by decide) (Nat.le_of_ble_eq_true rfl) ?_
  refine c_putBytes (k := k + 0) hX a0 (by omega) (fun m1 o1 t1 a1 z1 => ?_)
  refine j_aload_n dX11_feed_20 rfl rfl ?_
  refine j_iload_n dX11_feed_21 rfl rfl ?_
  refine cV11_71 (d1 := 1) rfl dX11_feed_22 (by decide) (Nat.le_of_ble_eq_true rfl) ?_
  refine c_putBytes (k := k + 4) hX a1 (by omega) (fun m2 o2 t2 a2 z2 => ?_)
  refine j_aload_n dX11_feed_25 rfl rfl ?_
  refine j_iload_n dX11_feed_26 rfl rfl ?_
  refine cV11_71 (d1 := 1) rfl dX11_feed_27 (by decide) (Nat.le_of_ble_eq_true rfl) ?_
  refine c_putBytes (k := k + 8) hX a2 (by omega) (fun m3 o3 t3 a3 z3 => ?_)
  refine j_aload_n dX11_feed_30 rfl rfl ?_
  refine j_iload dX11_feed_31 rfl ?_
  refine cV11_71 (d1 := 1) rfl dX11_feed_33 (by decide) (Nat.le_of_ble_eq_true rfl) ?_
  refine c_putBytes (k := k + 12) hX a3 (by omega) (fun m4 o4 t4 a4 z4 => ?_)
  refine j_aload_n dX11_feed_36 rfl rfl ?_
  refine j_iload dX11_feed_37 rfl ?_
  refine cV11_71 (d1 := 1) rfl dX11_feed_39 (by decide) (Nat.le_of_ble_eq_true rfl) ?_
  refine c_putBytes (k := k + 16) hX a4 (by omega) (fun m5 o5 t5 a5 z5 => ?_)
  refine j_aload_n dX11_feed_42 rfl rfl ?_
  refine gI11_13 rfl dX11_feed_43 ?_
  rw [a5]
  refine j_iret rfl dX11_feed_46 ?_
  refine hp m5 (fun z h0 h1 => ?_) ?_ a5 (fun i hi => ?_)
  · rw [o5 z h0 h1, o4 z h0 h1, o3 z h0 h1, o2 z h0 h1, o1 z h0 h1]
  · rw [t5, t4, t3, t2, t1, Nat.add_zero]
  · rw [z5 i hi, z4 i hi, z3 i hi, z2 i hi, z1 i hi]
theorem cx_feedN {k : Nat} {a b c d e : Int32} (h0 : mi 0 1 = nI k) (hk1 : k ≤ 1100) (hk : ¬ k + 20 ≤ 1100) (hp : post (some (.int (-1))) mi ml mr dom) : CT G 2 0 0 yX11_feed cX11_feed 6 (some .int) [.ref 0, .int a, .int b, .int c, .int d, .int e] mi ml mr dom post := by
  refine enter 0 (by decide) rfl rfl (fun X => ?_)
  refine j_aload_n dX11_feed_0 rfl rfl ?_
  refine gI11_13 rfl dX11_feed_1 ?_
  rw [h0]
  refine j_bipush (v := 20) dX11_feed_4 (by decide) ?_
  refine j_iadd dX11_feed_6 ?_
  refine j_sipush (v := 1100) dX11_feed_7 (by decide) ?_
  rw [show (20 : Int32) = nI 20 from rfl, nI_add]
  refine j_icmp_le (tgt := 15) dX11_feed_10 (by decide) (fun h10 => absurd h10 (fun q => hk (by rw [show (1100 : Int32) = nI 1100 from rfl, nI_leI (by omega) (by decide)] at q; exact q))) (fun _ => ?_)
  refine j_iconst (v := -1) dX11_feed_13 (by decide) ?_
  refine j_iret rfl dX11_feed_14 ?_
  exact hp
/-- the town with its ways -/
def tf (F : TW → Nat → Nat) (t : TW) : TW := fun r i => if r = 3 then F t i else t r i
theorem tf_3 (F : TW → Nat → Nat) (t : TW) (i : Nat) : tf F t 3 i = F t i := if_pos rfl
theorem tf_o (F : TW → Nat → Nat) (t : TW) {r : Nat} (h : r ≠ 3) : tf F t r = t r := by funext i; exact if_neg h
theorem WT.tf {t : TW} (h : WT t) (F : TW → Nat → Nat) : WT (tf F t) := h
theorem LT.tf {t : TW} (h : LT t) (F : TW → Nat → Nat) : LT (tf F t) := h
theorem RP.rx {mi : MI} {T : Nat} {t : TW} {F : TW → Nat → Nat} (h : RP mi T t) (ht : 0 < t 0 2) (hf : ∀ i, i < 36 → mi (T + 4) i = nI (cf (F t i))) : RX mi T (tf F t) := by
  refine ⟨⟨h.2 0 0 (Or.inl ⟨rfl, by decide, fun _ => ht⟩), h.2 0 1 (Or.inl ⟨rfl, by decide, fun _ => ht⟩), h.2 0 2 (Or.inl ⟨rfl, by decide, fun _ => ht⟩), h.houses, h.lanes, h.people, h.goods, h.visits, h.prints⟩, fun j hj => h.2 1 j (Or.inr (Or.inl ⟨rfl, hj⟩)), fun i hi => h.min hi, fun _ i hi => hf i hi, fun p hp => ⟨?_, ?_, ?_, fun i hi => ?_⟩, fun g hg => ⟨?_, ?_, ?_⟩, fun v hv => ⟨?_, ?_, ?_⟩, fun k hk => ⟨?_, ?_, ?_⟩⟩
  · rw [Nat.add_assoc]; exact h.2 4 p (Or.inr (Or.inr (Or.inr (Or.inl ⟨by decide, by decide, hp⟩))))
  · rw [Nat.add_assoc]; exact h.2 5 p (Or.inr (Or.inr (Or.inr (Or.inl ⟨by decide, by decide, hp⟩))))
  · rw [Nat.add_assoc]; exact h.2 6 p (Or.inr (Or.inr (Or.inr (Or.inl ⟨by decide, by decide, hp⟩))))
  · have hp : p < t 0 5 := hp
    have := h.2 7 (5 * p + i) (Or.inr (Or.inr (Or.inr (Or.inr (Or.inl ⟨rfl, by omega⟩)))))
    rw [show T + 10 + p + 10 = T + cC 7 (5 * p + i) by show _ = T + (20 + (5 * p + i) / 5); omega]
    rw [show cD 7 (5 * p + i) = i by show (5 * p + i) % 5 = i; omega] at this
    exact this
  · rw [Nat.add_assoc]; exact h.2 8 g (Or.inr (Or.inr (Or.inr (Or.inr (Or.inr (Or.inl ⟨by decide, by decide, hg⟩))))))
  · rw [Nat.add_assoc]; exact h.2 9 g (Or.inr (Or.inr (Or.inr (Or.inr (Or.inr (Or.inl ⟨by decide, by decide, hg⟩))))))
  · rw [Nat.add_assoc]; exact h.2 10 g (Or.inr (Or.inr (Or.inr (Or.inr (Or.inr (Or.inl ⟨by decide, by decide, hg⟩))))))
  · rw [Nat.add_assoc]; exact h.2 11 v (Or.inr (Or.inr (Or.inr (Or.inr (Or.inr (Or.inr (Or.inl ⟨by decide, by decide, hv⟩)))))))
  · rw [Nat.add_assoc]; exact h.2 12 v (Or.inr (Or.inr (Or.inr (Or.inr (Or.inr (Or.inr (Or.inl ⟨by decide, by decide, hv⟩)))))))
  · rw [Nat.add_assoc]; exact h.2 13 v (Or.inr (Or.inr (Or.inr (Or.inr (Or.inr (Or.inr (Or.inl ⟨by decide, by decide, hv⟩)))))))
  · rw [Nat.add_assoc]; exact h.2 14 k (Or.inr (Or.inr (Or.inr (Or.inr (Or.inr (Or.inr (Or.inr ⟨by decide, by decide, hk⟩)))))))
  · rw [Nat.add_assoc]; exact h.2 15 k (Or.inr (Or.inr (Or.inr (Or.inr (Or.inr (Or.inr (Or.inr ⟨by decide, by decide, hk⟩)))))))
  · rw [Nat.add_assoc]; exact h.2 16 k (Or.inr (Or.inr (Or.inr (Or.inr (Or.inr (Or.inr (Or.inr ⟨by decide, by decide, hk⟩)))))))
theorem cx_townB {k : Nat} {x : Int32} (h1 : mi 0 1 = nI k) (hb : x < 0 ∨ ¬ x ≤ nI k) (hp : post (some (.int (-1))) (up mi 0 9 2) ml mr dom) : CT G 12 0 0 yX11_town cX11_town 3 (some .int) [.ref 0, .int x] mi ml mr dom post := by
  refine enter 1 (by decide) rfl rfl (fun X => ?_)
  refine j_iload_n dX11_town_0 rfl rfl ?_
  refine j_if_lt (tgt := 12) dX11_town_1 (by decide) (fun h1i => ?_) (fun h1i => ?_)
  · refine j_aload_n dX11_town_12 rfl rfl ?_
    refine j_iconst (v := 2) dX11_town_13 (by decide) ?_
    refine cV11_75 (d1 := 1) rfl dX11_town_14 (by decide) (Nat.le_of_ble_eq_true rfl) ?_
    refine c_refuse ?_
    refine j_iret rfl dX11_town_17 ?_
    exact hp
  · refine j_iload_n dX11_town_4 rfl rfl ?_
    refine j_aload_n dX11_town_5 rfl rfl ?_
    refine gI11_13 rfl dX11_town_6 ?_
    rw [h1]
    refine j_icmp_le (tgt := 18) dX11_town_9 (by decide) (fun h9 => ?_) (fun h9 => ?_)
    · exfalso
      rcases hb with hb | hb
      · exact h1i hb
      · exact absurd h9 hb
    · refine j_aload_n dX11_town_12 rfl rfl ?_
      refine j_iconst (v := 2) dX11_town_13 (by decide) ?_
      refine cV11_75 (d1 := 1) rfl dX11_town_14 (by decide) (Nat.le_of_ble_eq_true rfl) ?_
      refine c_refuse ?_
      refine j_iret rfl dX11_town_17 ?_
      exact hp
theorem cC_4 {r i : Nat} (h : dU r i) : cC r i ≠ 4 := by
  intro q
  unfold cC at q; unfold dU at h
  (repeat' (split at q)) <;> omega
theorem cx_town {k : Nat} {F : TW → Nat → Nat} (hX : XR mr) (hT : TT T) (hT' : TT T') (hTn : mr 0 2 = some T) (hS : mr 0 3 = some T') (h1 : mi 0 1 = nI k) (hn : n ≤ k) (hk11 : k ≤ 1100) (ht : ∀ k, k < n → mi 1 k = sx (B k) ∧ B k < 256) (hk : ∀ k, k < 7 → ml 4 k = kc k) (hF : ∀ s, rdT B n = .inr s → ∀ i, i < 36 → cf (F s.2.2 i) = fwC (s.2.2 2) i)
  (hE : ∀ e, rdT B n = .inl e → ∀ mi' ml', (∀ a, a ≠ 0 → a ≠ 2 → a ≠ 6 → a ≠ 7 → (a < T' ∨ T' + 60 ≤ a) → mi' a = mi a) → (∀ a, a ≠ 2 → a ≠ 5 → ml' a = ml a) → mi' 0 1 = 0 → mi' 0 9 = 4 → mi' 0 10 = nI e.1 → mi' 0 11 = nI e.2 → post (some (.int (-1))) mi' ml' (upr mr 2 2 (some 1)) dom)
  (hO : ∀ s, rdT B n = .inr s → ∀ mi' ml', (∀ a, a ≠ 0 → a ≠ 2 → a ≠ 6 → a ≠ 7 → a ≠ 8 → a ≠ 9 → (a < T' ∨ T' + 60 ≤ a) → mi' a = mi a) → (∀ a, a ≠ 2 → a ≠ 5 → ml' a = ml a) → mi' 0 1 = 0 → mi' 0 9 = 0 → mi' 0 10 = 0 → mi' 0 11 = mi 0 11 → RX mi' T' (tf F s.2.2) → mi' T' 0 = 1 → mi' 8 0 = 0 → mi' 8 1 = 0 → (∀ j, j ≠ 0 → j ≠ 1 → mi' 8 j = mi 8 j) → (∀ p, p < s.2.2 0 5 → mi' 9 p = nI (s.2.2 5 p)) → (∀ g, g < s.2.2 0 6 → mi' 9 (6 + g) = nI (s.2.2 9 g)) → mi' 9 11 = 12 → mi' 9 12 = 0 → post (some (.int (nI (s.2.2 0 5)))) mi' ml' (upr (upr (upr mr 2 2 (some 1)) 0 3 (some T)) 0 2 (some T')) dom) : CT G 12 0 0 yX11_town cX11_town 3 (some .int) [.ref 0, .int (nI n)] mi ml mr dom post := by
  have hX2 := hX.u22 (some 1)
  have hX3 := (hX2.u03 (some T)).u02 (some T')
  have hge := hT'.ge
  refine enter 1 (by decide) rfl rfl (fun X => ?_)
  refine j_iload_n dX11_town_0 rfl rfl ?_
  refine j_if_lt (tgt := 12) dX11_town_1 (by decide) (fun h1 => absurd h1 (nI_pos (by omega))) (fun _ => ?_)
  refine j_iload_n dX11_town_4 rfl rfl ?_
  refine j_aload_n dX11_town_5 rfl rfl ?_
  refine gI11_13 rfl dX11_town_6 ?_
  rw [h1]
  refine j_icmp_le (tgt := 18) dX11_town_9 (by decide) (fun _ => ?_) (fun h9 => absurd (nI_le hn (by omega)) h9)
  refine j_aload_n dX11_town_18 rfl rfl ?_
  refine j_iconst (v := 0) dX11_town_19 (by decide) ?_
  refine pI11_13 rfl dX11_town_20 ?_
  refine j_aload_n dX11_town_23 rfl rfl ?_
  refine gR11_30 rfl dX11_town_24 (x_reader hX) ?_
  refine j_aload_n dX11_town_27 rfl rfl ?_
  refine gR11_9 rfl dX11_town_28 (x_tape hX) ?_
  refine j_iload_n dX11_town_31 rfl rfl ?_
  refine j_aload_n dX11_town_32 rfl rfl ?_
  refine gR11_24 rfl dX11_town_33 hS ?_
  refine cV11_79 (d1 := 11) rfl dX11_town_36 (by decide) (Nat.le_of_ble_eq_true rfl) ?_
  refine c_reads (B := B) hX hT' (by omega) (fun j hj => by rw [up_off _ _ (by decide)]; exact ht j hj) hk (fun e he mi1 ml1 f1 g0 g1 => ?_) (fun s he mi1 ml1 f1 r1 => ?_)
  · 
    refine j_if_ne (tgt := 70) dX11_town_39 (by decide) (fun h39 => absurd (by decide) h39) (fun _ => ?_)
    refine j_aload_n dX11_town_42 rfl rfl ?_
    refine j_aload_n dX11_town_43 rfl rfl ?_
    refine gR11_30 rfl dX11_town_44 (x_reader hX2) ?_
    refine gI11_83 rfl dX11_town_47 ?_
    rw [g0]
    refine pI11_65 rfl dX11_town_50 ?_
    refine j_aload_n dX11_town_53 rfl rfl ?_
    refine j_aload_n dX11_town_54 rfl rfl ?_
    refine gR11_30 rfl dX11_town_55 (x_reader hX2) ?_
    refine gI11_86 rfl dX11_town_58 ?_
    rw [up_off _ _ (by decide), g1]
    refine pI11_68 rfl dX11_town_61 ?_
    refine j_aload_n dX11_town_64 rfl rfl ?_
    refine j_iconst (v := 4) dX11_town_65 (by decide) ?_
    refine cV11_75 (d1 := 1) rfl dX11_town_66 (by decide) (Nat.le_of_ble_eq_true rfl) ?_
    refine c_refuse ?_
    refine j_iret rfl dX11_town_69 ?_
    refine hE e he _ _ (fun a x0 x1 x2 x3 x4 => ?_) f1.2 ?_ (up_at _ _ _ _) ?_ ?_
    · rw [up_off _ _ x0, up_off _ _ x0, up_off _ _ x0, f1.1 a x1 x2 x3 x4, up_off _ _ x0]
    · rw [up_ne _ _ (by decide), up_ne _ _ (by decide), up_ne _ _ (by decide), f1.1 0 (by decide) (by decide) (by decide) (Or.inl (by omega)), up_at]
    · rw [up_ne _ _ (by decide), up_ne _ _ (by decide), up_at]
    · rw [up_ne _ _ (by decide), up_at]
  · obtain ⟨w1, l1⟩ := rd_inv n _ WI00 s he
    have ww := w1.2.1.1
    have ht2 : 0 < s.2.2 0 2 := by have := l1.2.2.1; omega
    refine j_if_ne (tgt := 70) dX11_town_39 (by decide) (fun _ => ?_) (fun h39 => absurd h39 (by decide))
    refine j_aload_n dX11_town_70 rfl rfl ?_
    refine j_iconst (v := 0) dX11_town_71 (by decide) ?_
    refine pI11_65 rfl dX11_town_72 ?_
    refine j_aload_n dX11_town_75 rfl rfl ?_
    refine gR11_24 rfl dX11_town_76 ((congrFun (upr_off _ _ (by decide)) _).trans hS) ?_
    refine j_astore_n (lv2 := [_, _, _]) dX11_town_79 rfl (by decide) rfl rfl ?_
    refine j_aload_n dX11_town_80 rfl rfl ?_
    refine j_aload_n dX11_town_81 rfl rfl ?_
    refine gR11_20 rfl dX11_town_82 ((congrFun (upr_off _ _ (by decide)) _).trans hTn) ?_
    refine pR11_24 rfl dX11_town_85 ?_
    refine j_aload_n dX11_town_88 rfl rfl ?_
    refine j_aload_n dX11_town_89 rfl rfl ?_
    refine pR11_20 rfl dX11_town_90 ?_
    refine j_aload_n dX11_town_93 rfl rfl ?_
    refine gR11_20 rfl dX11_town_94 (upr_at _ _ _ _) ?_
    refine gR11_89 (kT0 hT') dX11_town_97 (xT_lanes hX3 hT') ?_
    refine cV11_93 (d1 := 2) (kT2 hT') dX11_town_100 (by decide) (Nat.le_of_ble_eq_true rfl) ?_
    refine c_measure (mn := s.2.2 2) hX3 hT' (fun i hi => by rw [up_off _ _ (by omega)]; exact r1.min hi) w1.2.1.2.2.1 (fun m2 o2 g2 => ?_)
    have rp2 : RP m2 T' s.2.2 := by
      refine ⟨?_, fun r i hd => ?_⟩
      · rw [o2 _ (by omega), up_off _ _ (by omega)]; exact r1.1
      · by_cases hc : cC r i = 4
        · exact absurd hc (cC_4 (dm_U w1.2.1 r i hd))
        · rw [o2 _ (by omega), up_off _ _ (by omega)]; exact r1.2 r i hd
    have rx2 : RX m2 T' (tf F s.2.2) := rp2.rx ht2 (fun i hi => by rw [hF s he i hi]; exact g2 i hi)
    refine j_aload_n dX11_town_103 rfl rfl ?_
    refine gR11_37 rfl dX11_town_104 (x_present hX3) ?_
    refine j_aload_n dX11_town_107 rfl rfl ?_
    refine gR11_20 rfl dX11_town_108 (upr_at _ _ _ _) ?_
    refine cV11_98 (d1 := 1) rfl dX11_town_111 (by decide) (Nat.le_of_ble_eq_true rfl) ?_
    refine c_begin (t := tf F s.2.2) hX3 hT' (WT.tf w1.2.1 F) rx2 (fun m3 o3 b0 b1 b2 b3 b4 b5 b6 => ?_)
    have rx3 : RX m3 T' (tf F s.2.2) := RX_off (fun j => o3 _ (by omega) (by omega)) rx2
    refine j_aload_n dX11_town_114 rfl rfl ?_
    refine j_aload_n dX11_town_115 rfl rfl ?_
    refine gR11_20 rfl dX11_town_116 (upr_at _ _ _ _) ?_
    refine gI11_102 (kT0 hT') dX11_town_119 ?_
    rw [show m3 T' 5 = nI (s.2.2 0 5) from rx3.1.2.2.2.2.2.1]
    refine cV11_105 (d1 := 1) rfl dX11_town_122 (by decide) (Nat.le_of_ble_eq_true rfl) ?_
    refine c_answer ?_
    refine j_iret rfl dX11_town_125 ?_
    have f10 : mi1 0 = up mi 0 1 0 0 := f1.1 0 (by decide) (by decide) (by decide) (Or.inl (by omega))
    have m30 : ∀ j, m3 0 j = up mi1 0 10 0 0 j := fun j => by rw [o3 _ (by decide) (by decide), o2 _ (by omega)]
    refine hO s he _ _ (fun a x0 x1 x2 x3 x4 x5 x6 => ?_) f1.2 ?_ (up_at _ _ _ _) ?_ ?_ (RX_off (fun j => up_off _ _ (by omega)) rx3) ?_ ?_ ?_ (fun j hj0 hj1 => ?_) (fun p hp => ?_) (fun g hg => ?_) ?_ ?_
    · rw [up_off _ _ x0, o3 _ x4 x5, o2 _ (by omega), up_off _ _ x0, f1.1 a x1 x2 x3 x6, up_off _ _ x0]
    · rw [up_ne _ _ (by decide), m30, up_ne _ _ (by decide), f10, up_at]
    · rw [up_ne _ _ (by decide), m30, up_at]
    · rw [up_ne _ _ (by decide), m30, up_ne _ _ (by decide), f10, up_ne _ _ (by decide)]
    · rw [up_off _ _ (by omega), o3 _ (by omega) (by omega), rp2.1, if_pos ht2]; rfl
    · rw [up_off _ _ (by decide)]; exact b0
    · rw [up_off _ _ (by decide)]; exact b1
    · rw [up_off _ _ (by decide), b2 j hj0 hj1, o2 _ (by omega), up_off _ _ (by decide), f1.1 8 (by decide) (by decide) (by decide) (Or.inl (by omega)), up_off _ _ (by decide)]
    · rw [up_off _ _ (by decide)]; exact b3 p hp
    · rw [up_off _ _ (by decide)]; exact b4 g hg
    · rw [up_off _ _ (by decide)]; exact b5
    · rw [up_off _ _ (by decide)]; exact b6
/-- steps on the way to g -/
def nxF (mn fw : Nat → Nat) (a g : Nat) : Nat := rq (fun b => !nxW mn fw a g b) 6 0
def wa (mn fw : Nat → Nat) (g : Nat) : Nat → Nat → Option Nat
  | 0, a => some a
  | k + 1, a => if nxF mn fw a g < 6 then wa mn fw g k (nxF mn fw a g) else none
theorem nxF_is {mn fw : Nat → Nat} {a g b : Nat} (hb : b < 6) (h1 : nxW mn fw a g b = true) (h2 : ∀ j, j < b → nxW mn fw a g j = false) : nxF mn fw a g = b := by
  have h6 : nxF mn fw a g ≤ 6 := rq_le _ _ _ (by decide)
  rcases Nat.lt_trichotomy (nxF mn fw a g) b with q | q | q
  · have := rq_stop (fun b => !nxW mn fw a g b) 6 0 (show nxF mn fw a g < 6 by omega)
    have := h2 _ q
    simp_all [nxF]
  · exact q
  · have := (rq_in (fun b => !nxW mn fw a g b) 6 0 b (Nat.zero_le _) q).1
    rw [h1] at this; exact absurd this (by decide)
theorem nxF_no {mn fw : Nat → Nat} {a g : Nat} (h2 : ∀ j, j < 6 → nxW mn fw a g j = false) : nxF mn fw a g = 6 := by
  have h6 : nxF mn fw a g ≤ 6 := rq_le _ _ _ (by decide)
  by_cases q : nxF mn fw a g < 6
  · have := rq_stop (fun b => !nxW mn fw a g b) 6 0 q
    have := h2 _ q
    simp_all [nxF]
  · omega
theorem cx_wayAt {h g i : Nat} (hX : XR mr) (hT : TT T) (hTn : mr 0 2 = some T) (hW : WT t) (hR : RX mi T t) (h1 : h < t 0 3) (h2 : g < t 0 3) (hi : i < 6) (hf : cf (t 3 (6 * h + g)) < 1000000) (hE : wa (t 2) (fun i => cf (t 3 i)) g i h = none → post (some (.int (-1))) (up mi 0 9 1) ml mr dom) (hO : ∀ a, wa (t 2) (fun i => cf (t 3 i)) g i h = some a → post (some (.int (nI a))) (up mi 0 9 0) ml mr dom) : CT G 3 0 0 yX11_wayAt cX11_wayAt 6 (some .int) [.ref 0, .int (nI h), .int (nI g), .int (nI i)] mi ml mr dom post := by
  have w := hW.1
  refine enter 2 (by decide) rfl rfl (fun X => ?_)
  refine j_aload_n dX11_wayAt_0 rfl rfl ?_
  refine j_iload_n dX11_wayAt_1 rfl rfl ?_
  refine cV11_108 (d1 := 1) rfl dX11_wayAt_2 (by decide) (Nat.le_of_ble_eq_true rfl) ?_
  refine c_isHouseG hX hT hTn hW hR h1 ?_
  refine j_if_eq (tgt := 43) dX11_wayAt_5 (by decide) (fun h5 => absurd h5 (by decide)) (fun _ => ?_)
  refine j_aload_n dX11_wayAt_8 rfl rfl ?_
  refine j_iload_n dX11_wayAt_9 rfl rfl ?_
  refine cV11_108 (d1 := 1) rfl dX11_wayAt_10 (by decide) (Nat.le_of_ble_eq_true rfl) ?_
  refine c_isHouseG hX hT hTn hW hR h2 ?_
  refine j_if_eq (tgt := 43) dX11_wayAt_13 (by decide) (fun h13 => absurd h13 (by decide)) (fun _ => ?_)
  refine j_iload_n dX11_wayAt_16 rfl rfl ?_
  refine j_if_lt (tgt := 43) dX11_wayAt_17 (by decide) (fun h17 => absurd h17 (nI_pos (by omega))) (fun _ => ?_)
  refine j_iload_n dX11_wayAt_20 rfl rfl ?_
  refine j_bipush (v := 6) dX11_wayAt_21 (by decide) ?_
  refine j_icmp_ge (tgt := 43) dX11_wayAt_23 (by decide) (fun h23 => absurd h23 (nI_ge hi (by decide))) (fun _ => ?_)
  refine j_aload_n dX11_wayAt_26 rfl rfl ?_
  refine gR11_20 rfl dX11_wayAt_27 hTn ?_
  refine gR11_89 (kT0 hT) dX11_wayAt_30 (xT_lanes hX hT) ?_
  refine j_iload_n dX11_wayAt_33 rfl rfl ?_
  refine j_iload_n dX11_wayAt_34 rfl rfl ?_
  refine cV11_247 (d1 := 1) (kT2 hT) dX11_wayAt_35 (by decide) (Nat.le_of_ble_eq_true rfl) ?_
  refine c_between hX hT (by omega) (by omega) (hR.2.2.2.1 (by omega) _ (by omega)) ?_
  refine j_ldc wd994 dX11_wayAt_38 ?_
  refine j_icmp_lt (tgt := 49) dX11_wayAt_40 (by decide) (fun _ => ?_) (fun h40 => absurd (nI_lt hf (by decide)) h40)
  refine j_iload_n dX11_wayAt_49 rfl rfl ?_
  refine j_istore (lv2 := [_, _, _, _, _, _]) dX11_wayAt_50 (by decide) rfl rfl ?_
  refine j_iconst (v := 0) dX11_wayAt_52 (by decide) ?_
  refine j_istore (lv2 := [_, _, _, _, _, _]) dX11_wayAt_53 (by decide) rfl rfl ?_
  have key : ∀ k, k ≤ i → ∀ a, a < 6 → wa (t 2) (fun i => cf (t 3 i)) g k a = wa (t 2) (fun i => cf (t 3 i)) g i h → J cX11_wayAt 6 yX11_wayAt.cls yX11_wayAt.name (some .int) 3 G X post 0 0 mi ml mr dom 55 [some (.ref 0), some (.int (nI h)), some (.int (nI g)), some (.int (nI i)), some (.int (nI a)), some (.int (nI (i - k)))] [] := by
    intro k
    induction k with
    | zero =>
      intro _ a ha hw
      rw [Nat.sub_zero]
      refine j_iload dX11_wayAt_55 rfl ?_
      refine j_iload_n dX11_wayAt_57 rfl rfl ?_
      refine j_icmp_ge (tgt := 94) dX11_wayAt_58 (by decide) (fun _ => ?_) (fun h58 => absurd (nI_le (by omega) (by omega)) h58)
      refine j_aload_n dX11_wayAt_94 rfl rfl ?_
      refine j_iload dX11_wayAt_95 rfl ?_
      refine cV11_105 (d1 := 1) rfl dX11_wayAt_97 (by decide) (Nat.le_of_ble_eq_true rfl) ?_
      refine c_answer ?_
      refine j_iret rfl dX11_wayAt_100 ?_
      exact hO a (hw ▸ rfl)
    | succ k ih =>
      intro hki a ha hw
      refine j_iload dX11_wayAt_55 rfl ?_
      refine j_iload_n dX11_wayAt_57 rfl rfl ?_
      refine j_icmp_ge (tgt := 94) dX11_wayAt_58 (by decide) (fun h58 => absurd h58 (nI_ge (by omega) (by omega))) (fun _ => ?_)
      refine j_aload_n dX11_wayAt_61 rfl rfl ?_
      refine gR11_20 rfl dX11_wayAt_62 hTn ?_
      refine gR11_89 (kT0 hT) dX11_wayAt_65 (xT_lanes hX hT) ?_
      refine j_iload dX11_wayAt_68 rfl ?_
      refine j_iload_n dX11_wayAt_70 rfl rfl ?_
      refine cV11_251 (d1 := 2) (kT2 hT) dX11_wayAt_71 (by decide) (Nat.le_of_ble_eq_true rfl) ?_
      refine c_next (mn := t 2) (fw := fun i => cf (t 3 i)) hX hT hR.2.2.1 hW.2.2.1 (hR.2.2.2.1 (by omega)) (fun i => cf_le _) ha (by omega) (fun b hb6 hb1 hb2 => ?_) (fun hno => ?_)
      · have hnx := nxF_is hb6 hb1 hb2
        refine j_istore (lv2 := [_, _, _, _, _, _]) dX11_wayAt_74 (by decide) rfl rfl ?_
        refine j_iload dX11_wayAt_76 rfl ?_
        refine j_iconst (v := -1) dX11_wayAt_78 (by decide) ?_
        refine j_icmp_ne (tgt := 88) dX11_wayAt_79 (by decide) (fun _ => ?_) (fun h79 => absurd h79 (m1_ne (by omega)))
        refine j_iinc1 (lv2 := [_, _, _, _, _, _]) dX11_wayAt_88 rfl (by decide) rfl rfl ?_
        refine j_goto (tgt := 55) dX11_wayAt_91 (by decide) ?_
        rw [nI_1, show i - (k + 1) + 1 = i - k by omega]
        exact ih (by omega) b hb6 (by rw [← hw, wa, if_pos (by omega), hnx])
      · have hnx := nxF_no hno
        refine j_istore (lv2 := [_, _, _, _, _, _]) dX11_wayAt_74 (by decide) rfl rfl ?_
        refine j_iload dX11_wayAt_76 rfl ?_
        refine j_iconst (v := -1) dX11_wayAt_78 (by decide) ?_
        refine j_icmp_ne (tgt := 88) dX11_wayAt_79 (by decide) (fun h79 => absurd h79 (fun q => q rfl)) (fun _ => ?_)
        refine j_aload_n dX11_wayAt_82 rfl rfl ?_
        refine j_iconst (v := 1) dX11_wayAt_83 (by decide) ?_
        refine cV11_75 (d1 := 1) rfl dX11_wayAt_84 (by decide) (Nat.le_of_ble_eq_true rfl) ?_
        refine c_refuse ?_
        refine j_iret rfl dX11_wayAt_87 ?_
        exact hE (by rw [← hw, wa, if_neg (by omega)])
  rw [show (0 : Int32) = nI (i - i) by rw [Nat.sub_self]; rfl]
  exact key i (Nat.le_refl _) h (by omega) rfl
theorem cx_wayAtB1 {x y z : Int32} (hX : XR mr) (hT : TT T) (hTn : mr 0 2 = some T) (hW : WT t) (hR : RX mi T t) (hb : bad x (t 0 3)) (hp : post (some (.int (-1))) (up mi 0 9 1) ml mr dom) : CT G 3 0 0 yX11_wayAt cX11_wayAt 6 (some .int) [.ref 0, .int x, .int y, .int z] mi ml mr dom post := by
  have w := hW.1
  refine enter 2 (by decide) rfl rfl (fun X => ?_)
  refine j_aload_n dX11_wayAt_0 rfl rfl ?_
  refine j_iload_n dX11_wayAt_1 rfl rfl ?_
  refine cV11_108 (d1 := 1) rfl dX11_wayAt_2 (by decide) (Nat.le_of_ble_eq_true rfl) ?_
  refine c_isHouseB hX hT hTn hW hR hb ?_
  refine j_if_eq (tgt := 43) dX11_wayAt_5 (by decide) (fun _ => ?_) (fun h5 => absurd (by decide) h5)
  refine j_aload_n dX11_wayAt_43 rfl rfl ?_
  refine j_iconst (v := 1) dX11_wayAt_44 (by decide) ?_
  refine cV11_75 (d1 := 1) rfl dX11_wayAt_45 (by decide) (Nat.le_of_ble_eq_true rfl) ?_
  refine c_refuse ?_
  refine j_iret rfl dX11_wayAt_48 ?_
  exact hp
theorem cx_wayAtB2 {h : Nat} {y z : Int32} (hX : XR mr) (hT : TT T) (hTn : mr 0 2 = some T) (hW : WT t) (hR : RX mi T t) (h1 : h < t 0 3) (hb : bad y (t 0 3)) (hp : post (some (.int (-1))) (up mi 0 9 1) ml mr dom) : CT G 3 0 0 yX11_wayAt cX11_wayAt 6 (some .int) [.ref 0, .int (nI h), .int y, .int z] mi ml mr dom post := by
  have w := hW.1
  refine enter 2 (by decide) rfl rfl (fun X => ?_)
  refine j_aload_n dX11_wayAt_0 rfl rfl ?_
  refine j_iload_n dX11_wayAt_1 rfl rfl ?_
  refine cV11_108 (d1 := 1) rfl dX11_wayAt_2 (by decide) (Nat.le_of_ble_eq_true rfl) ?_
  refine c_isHouseG hX hT hTn hW hR h1 ?_
  refine j_if_eq (tgt := 43) dX11_wayAt_5 (by decide) (fun h5 => absurd h5 (by decide)) (fun _ => ?_)
  refine j_aload_n dX11_wayAt_8 rfl rfl ?_
  refine j_iload_n dX11_wayAt_9 rfl rfl ?_
  refine cV11_108 (d1 := 1) rfl dX11_wayAt_10 (by decide) (Nat.le_of_ble_eq_true rfl) ?_
  refine c_isHouseB hX hT hTn hW hR hb ?_
  refine j_if_eq (tgt := 43) dX11_wayAt_13 (by decide) (fun _ => ?_) (fun h13 => absurd (by decide) h13)
  refine j_aload_n dX11_wayAt_43 rfl rfl ?_
  refine j_iconst (v := 1) dX11_wayAt_44 (by decide) ?_
  refine cV11_75 (d1 := 1) rfl dX11_wayAt_45 (by decide) (Nat.le_of_ble_eq_true rfl) ?_
  refine c_refuse ?_
  refine j_iret rfl dX11_wayAt_48 ?_
  exact hp
theorem cx_wayAtB3 {h g : Nat} {z : Int32} (hX : XR mr) (hT : TT T) (hTn : mr 0 2 = some T) (hW : WT t) (hR : RX mi T t) (h1 : h < t 0 3) (h2 : g < t 0 3) (hb : bad z 6) (hp : post (some (.int (-1))) (up mi 0 9 1) ml mr dom) : CT G 3 0 0 yX11_wayAt cX11_wayAt 6 (some .int) [.ref 0, .int (nI h), .int (nI g), .int z] mi ml mr dom post := by
  have w := hW.1
  refine enter 2 (by decide) rfl rfl (fun X => ?_)
  refine j_aload_n dX11_wayAt_0 rfl rfl ?_
  refine j_iload_n dX11_wayAt_1 rfl rfl ?_
  refine cV11_108 (d1 := 1) rfl dX11_wayAt_2 (by decide) (Nat.le_of_ble_eq_true rfl) ?_
  refine c_isHouseG hX hT hTn hW hR h1 ?_
  refine j_if_eq (tgt := 43) dX11_wayAt_5 (by decide) (fun h5 => absurd h5 (by decide)) (fun _ => ?_)
  refine j_aload_n dX11_wayAt_8 rfl rfl ?_
  refine j_iload_n dX11_wayAt_9 rfl rfl ?_
  refine cV11_108 (d1 := 1) rfl dX11_wayAt_10 (by decide) (Nat.le_of_ble_eq_true rfl) ?_
  refine c_isHouseG hX hT hTn hW hR h2 ?_
  refine j_if_eq (tgt := 43) dX11_wayAt_13 (by decide) (fun h13 => absurd h13 (by decide)) (fun _ => ?_)
  refine j_iload_n dX11_wayAt_16 rfl rfl ?_
  refine j_if_lt (tgt := 43) dX11_wayAt_17 (by decide) (fun h17 => ?_) (fun h17 => ?_)
  · refine j_aload_n dX11_wayAt_43 rfl rfl ?_
    refine j_iconst (v := 1) dX11_wayAt_44 (by decide) ?_
    refine cV11_75 (d1 := 1) rfl dX11_wayAt_45 (by decide) (Nat.le_of_ble_eq_true rfl) ?_
    refine c_refuse ?_
    refine j_iret rfl dX11_wayAt_48 ?_
    exact hp
  · refine j_iload_n dX11_wayAt_20 rfl rfl ?_
    refine j_bipush (v := 6) dX11_wayAt_21 (by decide) ?_
    refine j_icmp_ge (tgt := 43) dX11_wayAt_23 (by decide) (fun h23 => ?_) (fun h23 => ?_)
    · refine j_aload_n dX11_wayAt_43 rfl rfl ?_
      refine j_iconst (v := 1) dX11_wayAt_44 (by decide) ?_
      refine cV11_75 (d1 := 1) rfl dX11_wayAt_45 (by decide) (Nat.le_of_ble_eq_true rfl) ?_
      refine c_refuse ?_
      refine j_iret rfl dX11_wayAt_48 ?_
      exact hp
    · exact (hb.elim h17 h23).elim
theorem cx_wayAtB4 {h g i : Nat} (hX : XR mr) (hT : TT T) (hTn : mr 0 2 = some T) (hW : WT t) (hR : RX mi T t) (h1 : h < t 0 3) (h2 : g < t 0 3) (hi : i < 6) (hf : 1000000 ≤ cf (t 3 (6 * h + g))) (hp : post (some (.int (-1))) (up mi 0 9 1) ml mr dom) : CT G 3 0 0 yX11_wayAt cX11_wayAt 6 (some .int) [.ref 0, .int (nI h), .int (nI g), .int (nI i)] mi ml mr dom post := by
  have w := hW.1
  refine enter 2 (by decide) rfl rfl (fun X => ?_)
  refine j_aload_n dX11_wayAt_0 rfl rfl ?_
  refine j_iload_n dX11_wayAt_1 rfl rfl ?_
  refine cV11_108 (d1 := 1) rfl dX11_wayAt_2 (by decide) (Nat.le_of_ble_eq_true rfl) ?_
  refine c_isHouseG hX hT hTn hW hR h1 ?_
  refine j_if_eq (tgt := 43) dX11_wayAt_5 (by decide) (fun h5 => absurd h5 (by decide)) (fun _ => ?_)
  refine j_aload_n dX11_wayAt_8 rfl rfl ?_
  refine j_iload_n dX11_wayAt_9 rfl rfl ?_
  refine cV11_108 (d1 := 1) rfl dX11_wayAt_10 (by decide) (Nat.le_of_ble_eq_true rfl) ?_
  refine c_isHouseG hX hT hTn hW hR h2 ?_
  refine j_if_eq (tgt := 43) dX11_wayAt_13 (by decide) (fun h13 => absurd h13 (by decide)) (fun _ => ?_)
  refine j_iload_n dX11_wayAt_16 rfl rfl ?_
  refine j_if_lt (tgt := 43) dX11_wayAt_17 (by decide) (fun h17 => absurd h17 (nI_pos (by omega))) (fun _ => ?_)
  refine j_iload_n dX11_wayAt_20 rfl rfl ?_
  refine j_bipush (v := 6) dX11_wayAt_21 (by decide) ?_
  refine j_icmp_ge (tgt := 43) dX11_wayAt_23 (by decide) (fun h23 => absurd h23 (nI_ge hi (by decide))) (fun _ => ?_)
  refine j_aload_n dX11_wayAt_26 rfl rfl ?_
  refine gR11_20 rfl dX11_wayAt_27 hTn ?_
  refine gR11_89 (kT0 hT) dX11_wayAt_30 (xT_lanes hX hT) ?_
  refine j_iload_n dX11_wayAt_33 rfl rfl ?_
  refine j_iload_n dX11_wayAt_34 rfl rfl ?_
  refine cV11_247 (d1 := 1) (kT2 hT) dX11_wayAt_35 (by decide) (Nat.le_of_ble_eq_true rfl) ?_
  refine c_between hX hT (by omega) (by omega) (hR.2.2.2.1 (by omega) _ (by omega)) ?_
  refine j_ldc wd994 dX11_wayAt_38 ?_
  refine j_icmp_lt (tgt := 49) dX11_wayAt_40 (by decide) (fun h40 => absurd h40 (nI_nlt hf (by have := cf_le (t 3 (6 * h + g)); omega))) (fun _ => ?_)
  refine j_aload_n dX11_wayAt_43 rfl rfl ?_
  refine j_iconst (v := 1) dX11_wayAt_44 (by decide) ?_
  refine cV11_75 (d1 := 1) rfl dX11_wayAt_45 (by decide) (Nat.le_of_ble_eq_true rfl) ?_
  refine c_refuse ?_
  refine j_iret rfl dX11_wayAt_48 ?_
  exact hp
end C11t
