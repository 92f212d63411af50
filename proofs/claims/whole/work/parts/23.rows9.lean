/-! the class: Rows.count -/
section C7c
variable {G : GG} {ml : ML} {mr : MR} {dom : List Nat} {T : Nat} {t : TW}
def wsK (t : TW) : Nat → Nat → Nat
  | 0 => fun _ => 0
  | k + 1 => if fst t k then (cnW t (t 16 k) 5 k 0 (wsK t k)).2 else wsK t k
def nrk (t : TW) (k : Nat) : Nat := if fst t k then (cnW t (t 16 k) 5 k 0 (wsK t k)).1 else 1
def otR (t : TW) (k : Nat) : Nat := pro (fun j => if t 16 j = t 16 k then 1 else nrk t j) (t 0 8)
def wfK (t : TW) (n i : Nat) : Nat := if i / 6 < n ∧ i % 6 < t 0 5 then wsK t (t 0 8) i * otR t (i / 6) else wsK t (t 0 8) i
def off3 (a b c : Nat) (m mi : MI) : Prop := ∀ n, n ≠ a → n ≠ b → n ≠ c → m n = mi n
theorem RX.o3 {m mi : MI} (hT : TT T) (hm : off3 17 18 19 m mi) (hR : RX mi T t) : RX m T t := RX_off (fun j => hm _ (by rcases hT with rfl | rfl <;> omega) (by rcases hT with rfl | rfl <;> omega) (by rcases hT with rfl | rfl <;> omega)) hR
theorem c_count {mi : MI} {post : PT} (hX : XR mr) (hT : TT T) (hW : WT t) (hR : RX mi T t) (hp : ∀ m, off3 17 18 19 m mi → m 17 2 = nI (t 0 5) → (∀ i, i < 30 → m 18 i = nI (wfK t (t 0 8) i)) → post (some (.int (nI (pro (nrk t) (t 0 8))))) m ml mr dom) : CT G 10 0 0 yX7_count cX7_count 4 (some .int) [.ref 17, .ref T] mi ml mr dom post := by
  have w := hW.1
  refine enter 2 (by decide) rfl rfl (fun X => ?_)
  refine j_aload_n dX7_count_0 rfl rfl ?_
  refine j_aload_n dX7_count_1 rfl rfl ?_
  refine gI7_22 (kT0 hT) dX7_count_2 ?_
  rw [hR.people]
  refine pI7_18 rfl dX7_count_5 ?_
  refine j_aload_n dX7_count_8 rfl rfl ?_
  refine gR7_9 rfl dX7_count_9 (x_ways hX) ?_
  refine j_iconst (v := 0) dX7_count_12 (by decide) ?_
  refine cS7_25 (d1 := 1) dX7_count_13 (by decide) (Nat.le_of_ble_eq_true rfl) ?_
  refine c_fill rfl (by decide) ?_
  refine j_iconst (v := 1) dX7_count_16 (by decide) ?_
  refine j_istore_n (lv2 := [_, _, _, _]) dX7_count_17 rfl (by decide) rfl rfl ?_
  refine j_iconst (v := 0) dX7_count_18 (by decide) ?_
  refine j_istore_n (lv2 := [_, _, _, _]) dX7_count_19 rfl (by decide) rfl rfl ?_
  skip
  have key2 : ∀ m : MI, off3 17 18 19 m mi → m 17 2 = nI (t 0 5) → (∀ i, i < 30 → m 18 i = nI (wfK t 0 i)) → (∀ j, j < t 0 8 → m 19 j = nI (nrk t j)) → J cX7_count 4 yX7_count.cls yX7_count.name (some .int) 10 G X post 0 0 m ml mr dom 79 [some (.ref 17), some (.ref T), some (.int (nI (pro (nrk t) (t 0 8)))), some (.int (nI 0))] [] := by
    refine lq (n := t 0 8) (H := fun k => ∀ m : MI, off3 17 18 19 m mi → m 17 2 = nI (t 0 5) → (∀ i, i < 30 → m 18 i = nI (wfK t k i)) → (∀ j, j < t 0 8 → m 19 j = nI (nrk t j)) → J cX7_count 4 yX7_count.cls yX7_count.name (some .int) 10 G X post 0 0 m ml mr dom 79 [some (.ref 17), some (.ref T), some (.int (nI (pro (nrk t) (t 0 8)))), some (.int (nI k))] []) (fun m hm h17 h18 h19 => ?_) (fun k hk ih m hm h17 h18 h19 => ?_)
    · have hRm := RX.o3 hT hm hR
      refine j_iload_n dX7_count_79 rfl rfl ?_
      refine j_aload_n dX7_count_80 rfl rfl ?_
      refine gI7_31 (kT0 hT) dX7_count_81 ?_
      refine j_icmp_ge (tgt := 112) dX7_count_84 (by decide) (fun _ => ?_) (fun h84 => absurd (by rw [hRm.prints]; exact nI_le (Nat.le_refl _) (by omega)) h84)
      refine j_iload_n dX7_count_112 rfl rfl ?_
      refine j_iret rfl dX7_count_113 ?_
      exact hp m hm h17 h18
    · have hRm := RX.o3 hT hm hR
      refine j_iload_n dX7_count_79 rfl rfl ?_
      refine j_aload_n dX7_count_80 rfl rfl ?_
      refine gI7_31 (kT0 hT) dX7_count_81 ?_
      refine j_icmp_ge (tgt := 112) dX7_count_84 (by decide) (fun h84 => absurd (by rw [hRm.prints] at h84; exact h84) (nI_ge hk (by omega))) (fun _ => ?_)
      refine j_aload_n dX7_count_87 rfl rfl ?_
      refine j_iload_n dX7_count_88 rfl rfl ?_
      refine j_aload_n dX7_count_89 rfl rfl ?_
      refine j_aload_n dX7_count_90 rfl rfl ?_
      refine j_aload_n dX7_count_91 rfl rfl ?_
      refine gR7_38 (kT0 hT) dX7_count_92 (xT_tracks hX hT) ?_
      refine j_iload_n dX7_count_95 rfl rfl ?_
      refine j_aald (C := RX5) (kT8 hT) (by decide) (fun _ => rfl) (inT (lT8 hT) (show k < 5 by omega) (by omega)) (mr_nI (by omega) (xT_k hX hT (show k < 5 by omega))) dX7_count_96 (by decide) ?_
      refine gI7_42 (kK hT (show k < 5 by omega)) dX7_count_97 ?_
      refine cV7_51 (d1 := 1) rfl dX7_count_100 (by decide) (Nat.le_of_ble_eq_true rfl) ?_
      rw [(hRm.pr hk).2.2]
      refine c_rowsOfOthers hX hT hW hRm h19 (by have := (hW.pr hk).2.2; omega) ?_
      refine cV7_55 (d1 := 1) rfl dX7_count_103 (by decide) (Nat.le_of_ble_eq_true rfl) ?_
      refine c_spread hX h17 (by omega) (by omega) h18 (fun m2 hm2 hs2 => ?_)
      refine j_iinc1 (lv2 := [_, _, _, _]) dX7_count_106 rfl (by decide) rfl rfl ?_
      refine j_goto (tgt := 79) dX7_count_109 (by decide) ?_
      rw [nI_1]
      refine ih _ (fun n a1 a2 a3 => (hm2 n a2).trans (hm n a1 a2 a3)) (by rw [hm2 17 (by decide)]; exact h17) (fun i hi => ?_) (fun j hj => by rw [hm2 19 (by decide)]; exact h19 j hj)
      rw [hs2 i hi]
      congr 1
      simp only [wfK]
      have hd := Nat.div_add_mod i 6
      have hml := Nat.mod_lt i (show 0 < 6 by omega)
      by_cases c1 : 6 * k ≤ i ∧ i < 6 * k + t 0 5
      · rw [if_pos c1, if_neg (by omega), if_pos (by omega)]
        have : i / 6 = k := by omega
        rw [this]; rfl
      · rw [if_neg c1]
        by_cases c2 : i / 6 < k ∧ i % 6 < t 0 5
        · rw [if_pos c2, if_pos (by omega)]
        · rw [if_neg c2, if_neg (by omega)]
  refine lq (n := t 0 8) (H := fun k => ∀ m : MI, off3 17 18 19 m mi → m 17 2 = nI (t 0 5) → (∀ i, i < 30 → m 18 i = nI (wsK t k i)) → (∀ j, j < k → m 19 j = nI (nrk t j)) → J cX7_count 4 yX7_count.cls yX7_count.name (some .int) 10 G X post 0 0 m ml mr dom 20 [some (.ref 17), some (.ref T), some (.int (nI (pro (nrk t) k))), some (.int (nI k))] []) (fun m hm h17 h18 h19 => ?_) (fun k hk ih m hm h17 h18 h19 => ?_) _ (fun n a1 a2 a3 => ?_) ?_ (fun i hi => ?_) (fun j hj => absurd hj (by omega))
  · have hRm := RX.o3 hT hm hR
    refine j_iload_n dX7_count_20 rfl rfl ?_
    refine j_aload_n dX7_count_21 rfl rfl ?_
    refine gI7_31 (kT0 hT) dX7_count_22 ?_
    refine j_icmp_ge (tgt := 77) dX7_count_25 (by decide) (fun _ => ?_) (fun h25 => absurd (by rw [hRm.prints]; exact nI_le (Nat.le_refl _) (by omega)) h25)
    refine j_iconst (v := 0) dX7_count_77 (by decide) ?_
    refine j_istore_n (lv2 := [_, _, _, _]) dX7_count_78 rfl (by decide) rfl rfl ?_
    exact key2 m hm h17 (fun i hi => by rw [h18 i hi, wfK, if_neg (by omega)]) h19
  · have hRm := RX.o3 hT hm hR
    refine j_iload_n dX7_count_20 rfl rfl ?_
    refine j_aload_n dX7_count_21 rfl rfl ?_
    refine gI7_31 (kT0 hT) dX7_count_22 ?_
    refine j_icmp_ge (tgt := 77) dX7_count_25 (by decide) (fun h25 => absurd (by rw [hRm.prints] at h25; exact h25) (nI_ge hk (by omega))) (fun _ => ?_)
    refine j_aload_n dX7_count_28 rfl rfl ?_
    refine gR7_15 rfl dX7_count_29 (x_nightRows hX) ?_
    refine j_iload_n dX7_count_32 rfl rfl ?_
    refine j_aload_n dX7_count_33 rfl rfl ?_
    refine j_iload_n dX7_count_34 rfl rfl ?_
    refine cS7_34 (d1 := 1) dX7_count_35 (by decide) (Nat.le_of_ble_eq_true rfl) ?_
    refine c_isFirst hX hT hW hRm hk ?_
    refine j_if_eq (tgt := 60) dX7_count_38 (by decide) (fun h38 => ?_) (fun h38 => ?_)
    · rw [bN_eq0] at h38
      refine j_iconst (v := 1) dX7_count_60 (by decide) ?_
      refine j_iast rfl (inT (a := 19) (N := 5) rfl (show k < 5 by omega) (by omega)) dX7_count_61 ?_
      rw [nI_clamp (by omega)]
      refine j_iload_n dX7_count_62 rfl rfl ?_
      refine j_aload_n dX7_count_63 rfl rfl ?_
      refine gR7_15 rfl dX7_count_64 (x_nightRows hX) ?_
      refine j_iload_n dX7_count_67 rfl rfl ?_
      refine j_iald rfl (inT (a := 19) (N := 5) rfl (show k < 5 by omega) (by omega)) dX7_count_68 ?_
      refine j_imul dX7_count_69 ?_
      rw [nI_clamp (by omega), up_at]
      first
        | rw [pk_mul, show pro (nrk t) k * (cnW t (t 16 k) 5 k 0 (wsK t k)).1 = pro (nrk t) (k + 1) by rw [pro, nrk, if_pos h38]]
        | rw [show (1 : Int32) = nI 1 from rfl, pk_mul, show pro (nrk t) k * 1 = pro (nrk t) (k + 1) by rw [pro, nrk, if_neg (by rw [h38]; decide)]]
      refine j_istore_n (lv2 := [_, _, _, _]) dX7_count_70 rfl (by decide) rfl rfl ?_
      refine j_iinc1 (lv2 := [_, _, _, _]) dX7_count_71 rfl (by decide) rfl rfl ?_
      refine j_goto (tgt := 20) dX7_count_74 (by decide) ?_
      rw [nI_1]
      first
        | (have en : nrk t k = (cnW t (t 16 k) 5 k 0 (wsK t k)).1 := by rw [nrk, if_pos h38]
           have ew : wsK t (k + 1) = (cnW t (t 16 k) 5 k 0 (wsK t k)).2 := by rw [wsK, if_pos h38]
           refine ih _ (fun n a1 a2 a3 => ?_) ?_ (fun i hi => ?_) (fun j hj => ?_)
           · rw [up_off _ _ a3, hm2 n a2]; exact hm n a1 a2 a3
           · rw [up_off _ _ (by decide), hm2 17 (by decide)]; exact h17
           · rw [up_off _ _ (by decide), ew]; exact hs2 i hi
           · by_cases hjk : j = k
             · subst hjk; rw [up_at, en]
             · rw [up_ne _ _ hjk, hm2 19 (by decide)]; exact h19 j (by omega))
        | (have en : nrk t k = 1 := by rw [nrk, if_neg (by rw [h38]; decide)]
           have ew : wsK t (k + 1) = wsK t k := by rw [wsK, if_neg (by rw [h38]; decide)]
           refine ih _ (fun n a1 a2 a3 => ?_) ?_ (fun i hi => ?_) (fun j hj => ?_)
           · rw [up_off _ _ a3]; exact hm n a1 a2 a3
           · rw [up_off _ _ (by decide)]; exact h17
           · rw [up_off _ _ (by decide), ew]; exact h18 i hi
           · by_cases hjk : j = k
             · subst hjk; rw [up_at, en]
             · rw [up_ne _ _ hjk]; exact h19 j (by omega))
    · refine j_aload_n dX7_count_41 rfl rfl ?_
      refine j_aload_n dX7_count_42 rfl rfl ?_
      refine j_iload_n dX7_count_43 rfl rfl ?_
      refine j_aload_n dX7_count_44 rfl rfl ?_
      refine gR7_38 (kT0 hT) dX7_count_45 (xT_tracks hX hT) ?_
      refine j_iload_n dX7_count_48 rfl rfl ?_
      refine j_aald (C := RX5) (kT8 hT) (by decide) (fun _ => rfl) (inT (lT8 hT) (show k < 5 by omega) (by omega)) (mr_nI (by omega) (xT_k hX hT (show k < 5 by omega))) dX7_count_49 (by decide) ?_
      refine gI7_42 (kK hT (show k < 5 by omega)) dX7_count_50 ?_
      refine j_iconst (v := 0) dX7_count_53 (by decide) ?_
      refine cV7_47 (d1 := 9) rfl dX7_count_54 (by decide) (Nat.le_of_ble_eq_true rfl) ?_
      rw [bN_eq0, Bool.not_eq_false] at h38
      rw [(hRm.pr hk).2.2, show (0 : Int32) = nI 0 from rfl]
      refine c_countNight hX hT hW (hW.pr hk).2.2 5 k 0 (wsK t k) m _ hRm (by omega) (by omega) (by omega) h17 h18 (fun m2 hm2 hs2 => ?_)
      refine j_goto (tgt := 61) dX7_count_57 (by decide) ?_
      refine j_iast rfl (inT (a := 19) (N := 5) rfl (show k < 5 by omega) (by omega)) dX7_count_61 ?_
      rw [nI_clamp (by omega)]
      refine j_iload_n dX7_count_62 rfl rfl ?_
      refine j_aload_n dX7_count_63 rfl rfl ?_
      refine gR7_15 rfl dX7_count_64 (x_nightRows hX) ?_
      refine j_iload_n dX7_count_67 rfl rfl ?_
      refine j_iald rfl (inT (a := 19) (N := 5) rfl (show k < 5 by omega) (by omega)) dX7_count_68 ?_
      refine j_imul dX7_count_69 ?_
      rw [nI_clamp (by omega), up_at]
      first
        | rw [pk_mul, show pro (nrk t) k * (cnW t (t 16 k) 5 k 0 (wsK t k)).1 = pro (nrk t) (k + 1) by rw [pro, nrk, if_pos h38]]
        | rw [show (1 : Int32) = nI 1 from rfl, pk_mul, show pro (nrk t) k * 1 = pro (nrk t) (k + 1) by rw [pro, nrk, if_neg (by rw [h38]; decide)]]
      refine j_istore_n (lv2 := [_, _, _, _]) dX7_count_70 rfl (by decide) rfl rfl ?_
      refine j_iinc1 (lv2 := [_, _, _, _]) dX7_count_71 rfl (by decide) rfl rfl ?_
      refine j_goto (tgt := 20) dX7_count_74 (by decide) ?_
      rw [nI_1]
      first
        | (have en : nrk t k = (cnW t (t 16 k) 5 k 0 (wsK t k)).1 := by rw [nrk, if_pos h38]
           have ew : wsK t (k + 1) = (cnW t (t 16 k) 5 k 0 (wsK t k)).2 := by rw [wsK, if_pos h38]
           refine ih _ (fun n a1 a2 a3 => ?_) ?_ (fun i hi => ?_) (fun j hj => ?_)
           · rw [up_off _ _ a3, hm2 n a2]; exact hm n a1 a2 a3
           · rw [up_off _ _ (by decide), hm2 17 (by decide)]; exact h17
           · rw [up_off _ _ (by decide), ew]; exact hs2 i hi
           · by_cases hjk : j = k
             · subst hjk; rw [up_at, en]
             · rw [up_ne _ _ hjk, hm2 19 (by decide)]; exact h19 j (by omega))
        | (have en : nrk t k = 1 := by rw [nrk, if_neg (by rw [h38]; decide)]
           have ew : wsK t (k + 1) = wsK t k := by rw [wsK, if_neg (by rw [h38]; decide)]
           refine ih _ (fun n a1 a2 a3 => ?_) ?_ (fun i hi => ?_) (fun j hj => ?_)
           · rw [up_off _ _ a3]; exact hm n a1 a2 a3
           · rw [up_off _ _ (by decide)]; exact h17
           · rw [up_off _ _ (by decide), ew]; exact h18 i hi
           · by_cases hjk : j = k
             · subst hjk; rw [up_at, en]
             · rw [up_ne _ _ hjk]; exact h19 j (by omega))
  · funext i; unfold fillm; rw [if_neg a2, up_off _ _ a1]
  · unfold fillm; rw [if_neg (by decide), up_at]
  · unfold fillm; rw [if_pos rfl, if_pos (show i < ln 18 from hi)]; rfl
end C7c
