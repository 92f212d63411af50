/-! the class: Reader, tokens -/
/-- what stays while a text is read: its bytes, its length, the lines' words -/
def RB (mi : MI) (ml : ML) (mr : MR) (B : Nat → Nat) (n : Nat) : Prop := XR mr ∧ mr 2 2 = some 1 ∧ n ≤ 1100 ∧ (∀ k, k < n → mi 1 k = sx (B k) ∧ B k < 256) ∧ mi 2 3 = nI n ∧ ∀ k, k < 7 → ml 4 k = kc k
/-- the token at hand -/
def RD (mi : MI) (ml : ML) (B : Nat → Nat) (n p : Nat) : Prop := p ≤ n ∧ mi 2 4 = nI (tA B n p) ∧ mi 2 5 = nI (tE B n p) ∧ mi 2 6 = nI (tS B n p) ∧ ml 2 7 = tH B n p
/-- only the reader's own cells have changed -/
def F2 (mi : MI) (ml : ML) (mi' : MI) (ml' : ML) : Prop := (∀ a, a ≠ 2 → mi' a = mi a) ∧ (∀ a, a ≠ 2 → ml' a = ml a) ∧ mi' 2 3 = mi 2 3 ∧ mi' 2 13 = mi 2 13
theorem F2.rfl' (mi : MI) (ml : ML) : F2 mi ml mi ml := ⟨fun _ _ => rfl, fun _ _ => rfl, rfl, rfl⟩
theorem F2.tr {mi mi' mi2 : MI} {ml ml' ml2 : ML} (h : F2 mi ml mi' ml') (h2 : F2 mi' ml' mi2 ml2) : F2 mi ml mi2 ml2 := ⟨fun a ha => (h2.1 a ha).trans (h.1 a ha), fun a ha => (h2.2.1 a ha).trans (h.2.1 a ha), h2.2.2.1.trans h.2.2.1, h2.2.2.2.trans h.2.2.2⟩
theorem RB.f2 {mi mi' : MI} {ml ml' : ML} {mr : MR} {B : Nat → Nat} {n : Nat} (h : RB mi ml mr B n) (f : F2 mi ml mi' ml') : RB mi' ml' mr B n := ⟨h.1, h.2.1, h.2.2.1, by rw [f.1 1 (by decide)]; exact h.2.2.2.1, f.2.2.1.trans h.2.2.2.2.1, by rw [f.2.1 4 (by decide)]; exact h.2.2.2.2.2⟩
theorem cmp0 (x y : Int64) : lg_cmp x y = 0 ↔ x = y := lg_cmp_eq x y
theorem dcd {p q : Prop} {i : Decidable p} {j : Decidable q} (h : decide p = decide q) : p = q := propext (decide_eq_decide.mp h)
theorem upl_self {ml : ML} {a j : Nat} {x : Int64} (h : ml a j = x) : upl ml a j x = ml := by
  funext b i
  unfold upl
  split
  · split
    · next q r => rw [q, r, h]
    · rfl
  · rfl
theorem upl_upl (ml : ML) (a j : Nat) (x y : Int64) : upl (upl ml a j x) a j y = upl ml a j y := by
  funext b i; unfold upl; split
  · split <;> rfl
  · rfl
section C6a
variable {G : GG} {post : PT} {mi : MI} {ml : ML} {mr : MR} {dom : List Nat} {B : Nat → Nat} {n p : Nat}
theorem tX6_isLetter {x : Int32}  (hp : (if x < 97 then post (some (.int 0)) mi ml mr dom else (if 122 < x then post (some (.int 0)) mi ml mr dom else post (some (.int 1)) mi ml mr dom))) : CT G 1 0 0 yX6_isLetter cX6_isLetter 1 (some .boolean) [.int x] mi ml mr dom post := by
  refine enter 0 (by decide) rfl rfl (fun X => ?_)
  refine j_iload_n dX6_isLetter_0 rfl rfl ?_
  refine j_bipush (v := 97) dX6_isLetter_1 (by decide) ?_
  refine j_icmp_lt (tgt := 16) dX6_isLetter_3 (by decide) (fun h1 => ?_) (fun h1 => ?_)
  · refine j_iconst (v := 0) dX6_isLetter_16 (by decide) ?_
    refine j_zret rfl (by decide) dX6_isLetter_17 ?_
    rw [if_pos h1] at hp
    exact hp
  · refine j_iload_n dX6_isLetter_6 rfl rfl ?_
    refine j_bipush (v := 122) dX6_isLetter_7 (by decide) ?_
    refine j_icmp_gt (tgt := 16) dX6_isLetter_9 (by decide) (fun h2 => ?_) (fun h2 => ?_)
    · refine j_iconst (v := 0) dX6_isLetter_16 (by decide) ?_
      refine j_zret rfl (by decide) dX6_isLetter_17 ?_
      rw [if_neg h1] at hp
      rw [if_pos h2] at hp
      exact hp
    · refine j_iconst (v := 1) dX6_isLetter_12 (by decide) ?_
      refine j_goto (tgt := 17) dX6_isLetter_13 (by decide) ?_
      refine j_zret rfl (by decide) dX6_isLetter_17 ?_
      rw [if_neg h1] at hp
      rw [if_neg h2] at hp
      exact hp
theorem tX6_isDigit {x : Int32}  (hp : (if x < 48 then post (some (.int 0)) mi ml mr dom else (if 57 < x then post (some (.int 0)) mi ml mr dom else post (some (.int 1)) mi ml mr dom))) : CT G 1 0 0 yX6_isDigit cX6_isDigit 1 (some .boolean) [.int x] mi ml mr dom post := by
  refine enter 0 (by decide) rfl rfl (fun X => ?_)
  refine j_iload_n dX6_isDigit_0 rfl rfl ?_
  refine j_bipush (v := 48) dX6_isDigit_1 (by decide) ?_
  refine j_icmp_lt (tgt := 16) dX6_isDigit_3 (by decide) (fun h1 => ?_) (fun h1 => ?_)
  · refine j_iconst (v := 0) dX6_isDigit_16 (by decide) ?_
    refine j_zret rfl (by decide) dX6_isDigit_17 ?_
    rw [if_pos h1] at hp
    exact hp
  · refine j_iload_n dX6_isDigit_6 rfl rfl ?_
    refine j_bipush (v := 57) dX6_isDigit_7 (by decide) ?_
    refine j_icmp_gt (tgt := 16) dX6_isDigit_9 (by decide) (fun h2 => ?_) (fun h2 => ?_)
    · refine j_iconst (v := 0) dX6_isDigit_16 (by decide) ?_
      refine j_zret rfl (by decide) dX6_isDigit_17 ?_
      rw [if_neg h1] at hp
      rw [if_pos h2] at hp
      exact hp
    · refine j_iconst (v := 1) dX6_isDigit_12 (by decide) ?_
      refine j_goto (tgt := 17) dX6_isDigit_13 (by decide) ?_
      refine j_zret rfl (by decide) dX6_isDigit_17 ?_
      rw [if_neg h1] at hp
      rw [if_neg h2] at hp
      exact hp
theorem c_isLetter {b : Nat} (hb : b < 256) (hp : post (some (.int (nI (bN (isL b))))) mi ml mr dom) : CT G 1 0 0 yX6_isLetter cX6_isLetter 1 (some .boolean) [.int (sx b)] mi ml mr dom post := by
  have h := sx_lt b hb
  have h1 : (sx b < 97) = (b < 97 ∨ 128 ≤ b) := dcd h.1
  have h2 : (122 < sx b) = (122 < b ∧ b < 128) := dcd h.2.1
  refine tX6_isLetter ?_
  simp only [h1, h2]
  unfold isL at hp
  split
  · rw [show (decide (97 ≤ b) && decide (b ≤ 122)) = false by simp; omega] at hp; exact hp
  · split
    · rw [show (decide (97 ≤ b) && decide (b ≤ 122)) = false by simp; omega] at hp; exact hp
    · rw [show (decide (97 ≤ b) && decide (b ≤ 122)) = true by simp; omega] at hp; exact hp
theorem c_isDigit {b : Nat} (hb : b < 256) (hp : post (some (.int (nI (bN (isG b))))) mi ml mr dom) : CT G 1 0 0 yX6_isDigit cX6_isDigit 1 (some .boolean) [.int (sx b)] mi ml mr dom post := by
  have h := sx_lt b hb
  have h1 : (sx b < 48) = (b < 48 ∨ 128 ≤ b) := dcd h.2.2.1
  have h2 : (57 < sx b) = (57 < b ∧ b < 128) := dcd h.2.2.2.1
  refine tX6_isDigit ?_
  simp only [h1, h2]
  unfold isG at hp
  split
  · rw [show (decide (48 ≤ b) && decide (b ≤ 57)) = false by simp; omega] at hp; exact hp
  · split
    · rw [show (decide (48 ≤ b) && decide (b ≤ 57)) = false by simp; omega] at hp; exact hp
    · rw [show (decide (48 ≤ b) && decide (b ≤ 57)) = true by simp; omega] at hp; exact hp
theorem c_stepWord (hB : RB mi ml mr B n) {a : Nat} (ha : a ≤ n) (h4 : mi 2 4 = nI a) (h5 : mi 2 5 = nI a) (h7 : ml 2 7 = 0) {e : Nat} (he0 : e = rq (fun k => isL (B k)) n a) (hp : post none (up (up mi 2 5 (nI e)) 2 6 (nI (if e - a ≤ 8 then 1 else 4))) (upl ml 2 7 (hv 32 (gL B) a (e - a))) mr dom) : CT G 2 0 0 yX6_stepWord cX6_stepWord 1 none [.ref 2] mi ml mr dom post := by
  have hn := hB.2.2.1
  have hge : a ≤ e := by rw [he0]; exact rq_ge _ _ _
  have hle : e ≤ n := by rw [he0]; exact rq_le _ _ _ ha
  refine enter 0 (by decide) rfl rfl (fun X => ?_)
  have key : J cX6_stepWord 1 yX6_stepWord.cls yX6_stepWord.name none 2 G X post 0 0 (up mi 2 5 (nI a)) (upl ml 2 7 (hv 32 (gL B) a (a - a))) mr dom 0 [some (.ref 2)] [] := by
    refine rq_loop (Q := (fun k => isL (B k))) (n := n) (p := a) (H := fun i => J cX6_stepWord 1 yX6_stepWord.cls yX6_stepWord.name none 2 G X post 0 0 (up mi 2 5 (nI i)) (upl ml 2 7 (hv 32 (gL B) a (i - a))) mr dom 0 [some (.ref 2)] []) (fun i hai hi hq ih => ?_) ?_
    · have e3 : up mi 2 5 (nI i) 2 3 = nI n := by rw [up_ne _ _ (by decide)]; exact hB.2.2.2.2.1
      have e1 : up mi 2 5 (nI i) 1 = mi 1 := up_off _ _ (by decide)
      refine j_aload_n dX6_stepWord_0 rfl rfl ?_
      refine gI6_28 rfl dX6_stepWord_1 ?_
      refine j_aload_n dX6_stepWord_4 rfl rfl ?_
      refine gI6_22 rfl dX6_stepWord_5 ?_
      rw [up_at, e3]
      refine j_icmp_ge (tgt := 67) dX6_stepWord_8 (by decide) (fun h8 => absurd h8 (nI_ge hi (by omega))) (fun _ => ?_)
      refine j_aload_n dX6_stepWord_11 rfl rfl ?_
      refine gR6_18 rfl dX6_stepWord_12 (hB.2.1) ?_
      refine j_aload_n dX6_stepWord_15 rfl rfl ?_
      refine gI6_28 rfl dX6_stepWord_16 ?_
      rw [up_at]
      refine j_bald rfl (inT (show ln 1 = 1100 from rfl) (show i < 1100 by omega) (by decide)) dX6_stepWord_19 ?_
      rw [nI_clamp (by omega), e1, (hB.2.2.2.1 i hi).1]
      refine cS6_107 (d1 := 1) dX6_stepWord_20 (by decide) (Nat.le_of_ble_eq_true rfl) ?_
      refine c_isLetter (hB.2.2.2.1 i hi).2 ?_
      refine j_if_eq (tgt := 67) dX6_stepWord_23 (by decide) (fun h23 => absurd h23 (by rw [hq]; decide)) (fun _ => ?_)
      refine j_aload_n dX6_stepWord_26 rfl rfl ?_
      refine j_ldc2 wd392 dX6_stepWord_27 ?_
      refine j_aload_n dX6_stepWord_30 rfl rfl ?_
      refine gL6_34 rfl dX6_stepWord_31 ?_
      refine j_lmul dX6_stepWord_34 ?_
      refine j_aload_n dX6_stepWord_35 rfl rfl ?_
      refine gR6_18 rfl dX6_stepWord_36 (hB.2.1) ?_
      refine j_aload_n dX6_stepWord_39 rfl rfl ?_
      refine gI6_28 rfl dX6_stepWord_40 ?_
      rw [up_at]
      refine j_bald rfl (inT (show ln 1 = 1100 from rfl) (show i < 1100 by omega) (by decide)) dX6_stepWord_43 ?_
      rw [nI_clamp (by omega), e1, (hB.2.2.2.1 i hi).1]
      refine j_bipush (v := 97) dX6_stepWord_44 (by decide) ?_
      refine j_isub dX6_stepWord_46 ?_
      refine j_iconst (v := 1) dX6_stepWord_47 (by decide) ?_
      refine j_iadd dX6_stepWord_48 ?_
      refine j_i2l dX6_stepWord_49 ?_
      refine j_ladd dX6_stepWord_50 ?_
      refine pL6_34 rfl dX6_stepWord_51 ?_
      refine j_aload_n dX6_stepWord_54 rfl rfl ?_
      refine j_dup dX6_stepWord_55 rfl ?_
      refine gI6_28 rfl dX6_stepWord_56 ?_
      refine j_iconst (v := 1) dX6_stepWord_59 (by decide) ?_
      refine j_iadd dX6_stepWord_60 ?_
      refine pI6_28 rfl dX6_stepWord_61 ?_
      refine j_goto (tgt := 0) dX6_stepWord_64 (by decide) ?_
      rw [up_at, nI_1, up_up, upl_at, upl_upl]
      rw [show i + 1 - a = (i - a) + 1 by omega, hv, gL, show a + (i - a) = i by omega] at ih
      exact ih
    · rw [← he0]
      have hst : e < n → isL (B e) = false := fun h => by rw [he0] at h ⊢; exact rq_stop (fun k => isL (B k)) n _ h
      have e3 : up mi 2 5 (nI e) 2 3 = nI n := by rw [up_ne _ _ (by decide)]; exact hB.2.2.2.2.1
      have e1 : up mi 2 5 (nI e) 1 = mi 1 := up_off _ _ (by decide)
      have hk : J cX6_stepWord 1 yX6_stepWord.cls yX6_stepWord.name none 2 G X post 0 0 (up mi 2 5 (nI e)) (upl ml 2 7 (hv 32 (gL B) a (e - a))) mr dom 67 [some (.ref 2)] [] := by
        refine j_aload_n dX6_stepWord_67 rfl rfl ?_
        refine j_aload_n dX6_stepWord_68 rfl rfl ?_
        refine gI6_28 rfl dX6_stepWord_69 ?_
        refine j_aload_n dX6_stepWord_72 rfl rfl ?_
        refine gI6_25 rfl dX6_stepWord_73 ?_
        refine j_isub dX6_stepWord_76 ?_
        refine j_bipush (v := 8) dX6_stepWord_77 (by decide) ?_
        rw [up_at, up_ne _ _ (by decide), h4, pk_sub (by omega)]
        refine j_icmp_gt (tgt := 86) dX6_stepWord_79 (by decide) (fun h79 => ?_) (fun h79 => ?_)
        · refine j_iconst (v := 4) dX6_stepWord_86 (by decide) ?_
          refine pI6_31 rfl dX6_stepWord_87 ?_
          refine j_vret rfl dX6_stepWord_90 ?_
          first
            | (rw [show (8 : Int32) = nI 8 from rfl, nI_ltI (by omega) (by omega)] at h79
               rw [if_neg (by omega)] at hp; exact hp)
            | (rw [show (8 : Int32) = nI 8 from rfl, nI_ltI (by omega) (by omega)] at h79
               rw [if_pos (by omega)] at hp; exact hp)
        · refine j_iconst (v := 1) dX6_stepWord_82 (by decide) ?_
          refine j_goto (tgt := 87) dX6_stepWord_83 (by decide) ?_
          refine pI6_31 rfl dX6_stepWord_87 ?_
          refine j_vret rfl dX6_stepWord_90 ?_
          first
            | (rw [show (8 : Int32) = nI 8 from rfl, nI_ltI (by omega) (by omega)] at h79
               rw [if_neg (by omega)] at hp; exact hp)
            | (rw [show (8 : Int32) = nI 8 from rfl, nI_ltI (by omega) (by omega)] at h79
               rw [if_pos (by omega)] at hp; exact hp)
      refine j_aload_n dX6_stepWord_0 rfl rfl ?_
      refine gI6_28 rfl dX6_stepWord_1 ?_
      refine j_aload_n dX6_stepWord_4 rfl rfl ?_
      refine gI6_22 rfl dX6_stepWord_5 ?_
      rw [up_at, e3]
      refine j_icmp_ge (tgt := 67) dX6_stepWord_8 (by decide) (fun h8 => ?_) (fun h8 => ?_)
      · exact hk
      · refine j_aload_n dX6_stepWord_11 rfl rfl ?_
        refine gR6_18 rfl dX6_stepWord_12 (hB.2.1) ?_
        refine j_aload_n dX6_stepWord_15 rfl rfl ?_
        refine gI6_28 rfl dX6_stepWord_16 ?_
        rw [up_at]
        have he : e < n := by rw [nI_leI (by omega) (by omega)] at h8; omega
        refine j_bald rfl (inT (show ln 1 = 1100 from rfl) (show e < 1100 by omega) (by decide)) dX6_stepWord_19 ?_
        rw [nI_clamp (by omega), e1, (hB.2.2.2.1 e he).1]
        refine cS6_107 (d1 := 1) dX6_stepWord_20 (by decide) (Nat.le_of_ble_eq_true rfl) ?_
        refine c_isLetter (hB.2.2.2.1 e he).2 ?_
        refine j_if_eq (tgt := 67) dX6_stepWord_23 (by decide) (fun h23 => ?_) (fun h23 => ?_)
        · exact hk
        · rw [bN_eq0, show isL (B e) = false from hst he] at h23
          exact absurd rfl h23
  rw [up_self h5, Nat.sub_self, hv, upl_self h7] at key
  exact key
theorem c_stepWhole (hB : RB mi ml mr B n) {a : Nat} (ha : a ≤ n) (h4 : mi 2 4 = nI a) (h5 : mi 2 5 = nI a) (h7 : ml 2 7 = 0) {e : Nat} (he0 : e = rq (fun k => isG (B k)) n a) (hp : post none (up (up mi 2 5 (nI e)) 2 6 (nI (if e - a ≤ 3 then 2 else 4))) (upl ml 2 7 (hv 10 (gG B) a (e - a))) mr dom) : CT G 2 0 0 yX6_stepWhole cX6_stepWhole 1 none [.ref 2] mi ml mr dom post := by
  have hn := hB.2.2.1
  have hge : a ≤ e := by rw [he0]; exact rq_ge _ _ _
  have hle : e ≤ n := by rw [he0]; exact rq_le _ _ _ ha
  refine enter 0 (by decide) rfl rfl (fun X => ?_)
  have key : J cX6_stepWhole 1 yX6_stepWhole.cls yX6_stepWhole.name none 2 G X post 0 0 (up mi 2 5 (nI a)) (upl ml 2 7 (hv 10 (gG B) a (a - a))) mr dom 0 [some (.ref 2)] [] := by
    refine rq_loop (Q := (fun k => isG (B k))) (n := n) (p := a) (H := fun i => J cX6_stepWhole 1 yX6_stepWhole.cls yX6_stepWhole.name none 2 G X post 0 0 (up mi 2 5 (nI i)) (upl ml 2 7 (hv 10 (gG B) a (i - a))) mr dom 0 [some (.ref 2)] []) (fun i hai hi hq ih => ?_) ?_
    · have e3 : up mi 2 5 (nI i) 2 3 = nI n := by rw [up_ne _ _ (by decide)]; exact hB.2.2.2.2.1
      have e1 : up mi 2 5 (nI i) 1 = mi 1 := up_off _ _ (by decide)
      refine j_aload_n dX6_stepWhole_0 rfl rfl ?_
      refine gI6_28 rfl dX6_stepWhole_1 ?_
      refine j_aload_n dX6_stepWhole_4 rfl rfl ?_
      refine gI6_22 rfl dX6_stepWhole_5 ?_
      rw [up_at, e3]
      refine j_icmp_ge (tgt := 65) dX6_stepWhole_8 (by decide) (fun h8 => absurd h8 (nI_ge hi (by omega))) (fun _ => ?_)
      refine j_aload_n dX6_stepWhole_11 rfl rfl ?_
      refine gR6_18 rfl dX6_stepWhole_12 (hB.2.1) ?_
      refine j_aload_n dX6_stepWhole_15 rfl rfl ?_
      refine gI6_28 rfl dX6_stepWhole_16 ?_
      rw [up_at]
      refine j_bald rfl (inT (show ln 1 = 1100 from rfl) (show i < 1100 by omega) (by decide)) dX6_stepWhole_19 ?_
      rw [nI_clamp (by omega), e1, (hB.2.2.2.1 i hi).1]
      refine cS6_114 (d1 := 1) dX6_stepWhole_20 (by decide) (Nat.le_of_ble_eq_true rfl) ?_
      refine c_isDigit (hB.2.2.2.1 i hi).2 ?_
      refine j_if_eq (tgt := 65) dX6_stepWhole_23 (by decide) (fun h23 => absurd h23 (by rw [hq]; decide)) (fun _ => ?_)
      refine j_aload_n dX6_stepWhole_26 rfl rfl ?_
      refine j_ldc2 wd654 dX6_stepWhole_27 ?_
      refine j_aload_n dX6_stepWhole_30 rfl rfl ?_
      refine gL6_34 rfl dX6_stepWhole_31 ?_
      refine j_lmul dX6_stepWhole_34 ?_
      refine j_aload_n dX6_stepWhole_35 rfl rfl ?_
      refine gR6_18 rfl dX6_stepWhole_36 (hB.2.1) ?_
      refine j_aload_n dX6_stepWhole_39 rfl rfl ?_
      refine gI6_28 rfl dX6_stepWhole_40 ?_
      rw [up_at]
      refine j_bald rfl (inT (show ln 1 = 1100 from rfl) (show i < 1100 by omega) (by decide)) dX6_stepWhole_43 ?_
      rw [nI_clamp (by omega), e1, (hB.2.2.2.1 i hi).1]
      refine j_bipush (v := 48) dX6_stepWhole_44 (by decide) ?_
      refine j_isub dX6_stepWhole_46 ?_
      refine j_i2l dX6_stepWhole_47 ?_
      refine j_ladd dX6_stepWhole_48 ?_
      refine pL6_34 rfl dX6_stepWhole_49 ?_
      refine j_aload_n dX6_stepWhole_52 rfl rfl ?_
      refine j_dup dX6_stepWhole_53 rfl ?_
      refine gI6_28 rfl dX6_stepWhole_54 ?_
      refine j_iconst (v := 1) dX6_stepWhole_57 (by decide) ?_
      refine j_iadd dX6_stepWhole_58 ?_
      refine pI6_28 rfl dX6_stepWhole_59 ?_
      refine j_goto (tgt := 0) dX6_stepWhole_62 (by decide) ?_
      rw [up_at, nI_1, up_up, upl_at, upl_upl]
      rw [show i + 1 - a = (i - a) + 1 by omega, hv, gG, show a + (i - a) = i by omega] at ih
      exact ih
    · rw [← he0]
      have hst : e < n → isG (B e) = false := fun h => by rw [he0] at h ⊢; exact rq_stop (fun k => isG (B k)) n _ h
      have e3 : up mi 2 5 (nI e) 2 3 = nI n := by rw [up_ne _ _ (by decide)]; exact hB.2.2.2.2.1
      have e1 : up mi 2 5 (nI e) 1 = mi 1 := up_off _ _ (by decide)
      have hk : J cX6_stepWhole 1 yX6_stepWhole.cls yX6_stepWhole.name none 2 G X post 0 0 (up mi 2 5 (nI e)) (upl ml 2 7 (hv 10 (gG B) a (e - a))) mr dom 65 [some (.ref 2)] [] := by
        refine j_aload_n dX6_stepWhole_65 rfl rfl ?_
        refine j_aload_n dX6_stepWhole_66 rfl rfl ?_
        refine gI6_28 rfl dX6_stepWhole_67 ?_
        refine j_aload_n dX6_stepWhole_70 rfl rfl ?_
        refine gI6_25 rfl dX6_stepWhole_71 ?_
        refine j_isub dX6_stepWhole_74 ?_
        refine j_iconst (v := 3) dX6_stepWhole_75 (by decide) ?_
        rw [up_at, up_ne _ _ (by decide), h4, pk_sub (by omega)]
        refine j_icmp_gt (tgt := 83) dX6_stepWhole_76 (by decide) (fun h76 => ?_) (fun h76 => ?_)
        · refine j_iconst (v := 4) dX6_stepWhole_83 (by decide) ?_
          refine pI6_31 rfl dX6_stepWhole_84 ?_
          refine j_vret rfl dX6_stepWhole_87 ?_
          first
            | (rw [show (3 : Int32) = nI 3 from rfl, nI_ltI (by omega) (by omega)] at h76
               rw [if_neg (by omega)] at hp; exact hp)
            | (rw [show (3 : Int32) = nI 3 from rfl, nI_ltI (by omega) (by omega)] at h76
               rw [if_pos (by omega)] at hp; exact hp)
        · refine j_iconst (v := 2) dX6_stepWhole_79 (by decide) ?_
          refine j_goto (tgt := 84) dX6_stepWhole_80 (by decide) ?_
          refine pI6_31 rfl dX6_stepWhole_84 ?_
          refine j_vret rfl dX6_stepWhole_87 ?_
          first
            | (rw [show (3 : Int32) = nI 3 from rfl, nI_ltI (by omega) (by omega)] at h76
               rw [if_neg (by omega)] at hp; exact hp)
            | (rw [show (3 : Int32) = nI 3 from rfl, nI_ltI (by omega) (by omega)] at h76
               rw [if_pos (by omega)] at hp; exact hp)
      refine j_aload_n dX6_stepWhole_0 rfl rfl ?_
      refine gI6_28 rfl dX6_stepWhole_1 ?_
      refine j_aload_n dX6_stepWhole_4 rfl rfl ?_
      refine gI6_22 rfl dX6_stepWhole_5 ?_
      rw [up_at, e3]
      refine j_icmp_ge (tgt := 65) dX6_stepWhole_8 (by decide) (fun h8 => ?_) (fun h8 => ?_)
      · exact hk
      · refine j_aload_n dX6_stepWhole_11 rfl rfl ?_
        refine gR6_18 rfl dX6_stepWhole_12 (hB.2.1) ?_
        refine j_aload_n dX6_stepWhole_15 rfl rfl ?_
        refine gI6_28 rfl dX6_stepWhole_16 ?_
        rw [up_at]
        have he : e < n := by rw [nI_leI (by omega) (by omega)] at h8; omega
        refine j_bald rfl (inT (show ln 1 = 1100 from rfl) (show e < 1100 by omega) (by decide)) dX6_stepWhole_19 ?_
        rw [nI_clamp (by omega), e1, (hB.2.2.2.1 e he).1]
        refine cS6_114 (d1 := 1) dX6_stepWhole_20 (by decide) (Nat.le_of_ble_eq_true rfl) ?_
        refine c_isDigit (hB.2.2.2.1 e he).2 ?_
        refine j_if_eq (tgt := 65) dX6_stepWhole_23 (by decide) (fun h23 => ?_) (fun h23 => ?_)
        · exact hk
        · rw [bN_eq0, show isG (B e) = false from hst he] at h23
          exact absurd rfl h23
  rw [up_self h5, Nat.sub_self, hv, upl_self h7] at key
  exact key
end C6a
