set_option maxHeartbeats 4000000 in
set_option maxRecDepth 100000 in
/-- isSameAt -/
theorem c_X4_isSameAt {l : Launch} {g : hG} {X : va_W} {S : hS} {pl o t : Int32} : hMet l yX4_isSameAt wsX4_isSameAt rm_X4_isSameAt g X S [.int pl, .int o, .int t] (pI (b2 (like pl o t)) S) := by
  refine h_start (maxL := 7) (ret := (some .boolean)) (by decide) rfl (Nat.le_of_ble_eq_true rfl) ?_
  intro p e s m args below meth c F hr hinit
  refine q_iload_n F 1 dX4_isSameAt_0 rfl rfl ?_
  refine q_istore_n F 3 dX4_isSameAt_1 rfl (by decide) rfl ?_
  refine q_iload_n F 2 dX4_isSameAt_2 rfl rfl ?_
  refine q_istore F dX4_isSameAt_3 (by decide) rfl ?_
  refine q_iconst F dX4_isSameAt_5 hc_3 ?_
  refine q_istore F dX4_isSameAt_6 (by decide) rfl ?_
  have L : ∀ (k : Nat) (a b : Int32), k ≤ 4 → lk pl k a b = like pl o t → V p l e rm_X4_isSameAt s m args below meth c 7 g X (MQ below (hQ g X (pI (b2 (like pl o t)) S)) args s rm_X4_isSameAt.cells rm_X4_isSameAt.slots (hA g)) S 0 0 [(0, .int pl), (1, .int o), (2, .int t), (3, .int a), (4, .int b), (5, .int (dN k))] 8 [] := by
    intro k
    induction k with
    | zero =>
      intro a b hk hL
      refine q_iload F dX4_isSameAt_8 rfl ?_
      refine q_if_lt F 67 dX4_isSameAt_10 rfl (fun c10 => ?_) (fun c10 => ?_)
      · refine q_iconst F dX4_isSameAt_67 hc_1 ?_
        exact (q_reti F hr rfl dX4_isSameAt_68 (Nat.le_of_ble_eq_true rfl) (Nat.le_of_ble_eq_true rfl) ⟨by rw [← hL]; rfl, rfl⟩)
      exact absurd c10 (by decide)
    | succ k ih =>
      intro a b hk hL
      refine q_iload F dX4_isSameAt_8 rfl ?_
      refine q_if_lt F 67 dX4_isSameAt_10 rfl (fun c10 => ?_) (fun c10 => ?_)
      · exact absurd c10 (dN_s (by omega))
      refine q_iload_n F 0 dX4_isSameAt_13 rfl rfl ?_
      refine q_iload F dX4_isSameAt_14 rfl ?_
      refine q_ishr F dX4_isSameAt_16 ?_
      refine q_iconst F dX4_isSameAt_17 hc_1 ?_
      refine q_iand F dX4_isSameAt_18 ?_
      refine q_iconst F dX4_isSameAt_19 hc_1 ?_
      refine q_icmp_ne F 27 dX4_isSameAt_20 rfl (fun c20 => ?_) (fun c20 => ?_)
      · refine q_iconst F dX4_isSameAt_27 hc_0 ?_
        refine q_istore F dX4_isSameAt_28 (by decide) rfl ?_
        refine q_iload F dX4_isSameAt_30 rfl ?_
        refine q_if_eq F 49 dX4_isSameAt_32 rfl (fun c32 => ?_) (fun c32 => ?_)
        · refine q_iload_n F 3 dX4_isSameAt_49 rfl rfl ?_
          refine q_bipush (v := 10) F dX4_isSameAt_50 (by decide) ?_
          refine q_idiv F dX4_isSameAt_52 (by decide) ?_
          refine q_istore_n F 3 dX4_isSameAt_53 rfl (by decide) rfl ?_
          refine q_iload F dX4_isSameAt_54 rfl ?_
          refine q_bipush (v := 10) F dX4_isSameAt_56 (by decide) ?_
          refine q_idiv F dX4_isSameAt_58 (by decide) ?_
          refine q_istore F dX4_isSameAt_59 (by decide) rfl ?_
          refine q_iinc F (dN k) dX4_isSameAt_61 rfl (dN_dec k) (by decide) rfl ?_
          refine q_goto F 8 dX4_isSameAt_64 rfl ?_
          exact q_to (ih _ _ (by omega) (by rw [← hL]; first | exact (lk_yes0 c20).symm | exact (lk_yes1 c44).symm)) ⟨rfl, rfl, rfl, rfl, rfl, rfl, trivial⟩
        exact absurd c32 (by decide)
      refine q_iconst F dX4_isSameAt_23 hc_1 ?_
      refine q_goto F 28 dX4_isSameAt_24 rfl ?_
      refine q_istore F dX4_isSameAt_28 (by decide) rfl ?_
      refine q_iload F dX4_isSameAt_30 rfl ?_
      refine q_if_eq F 49 dX4_isSameAt_32 rfl (fun c32 => ?_) (fun c32 => ?_)
      · exact absurd c32 (by decide)
      refine q_iload_n F 3 dX4_isSameAt_35 rfl rfl ?_
      refine q_bipush (v := 10) F dX4_isSameAt_36 (by decide) ?_
      refine q_irem F dX4_isSameAt_38 (by decide) ?_
      refine q_iload F dX4_isSameAt_39 rfl ?_
      refine q_bipush (v := 10) F dX4_isSameAt_41 (by decide) ?_
      refine q_irem F dX4_isSameAt_43 (by decide) ?_
      refine q_icmp_eq F 49 dX4_isSameAt_44 rfl (fun c44 => ?_) (fun c44 => ?_)
      · refine q_iload_n F 3 dX4_isSameAt_49 rfl rfl ?_
        refine q_bipush (v := 10) F dX4_isSameAt_50 (by decide) ?_
        refine q_idiv F dX4_isSameAt_52 (by decide) ?_
        refine q_istore_n F 3 dX4_isSameAt_53 rfl (by decide) rfl ?_
        refine q_iload F dX4_isSameAt_54 rfl ?_
        refine q_bipush (v := 10) F dX4_isSameAt_56 (by decide) ?_
        refine q_idiv F dX4_isSameAt_58 (by decide) ?_
        refine q_istore F dX4_isSameAt_59 (by decide) rfl ?_
        refine q_iinc F (dN k) dX4_isSameAt_61 rfl (dN_dec k) (by decide) rfl ?_
        refine q_goto F 8 dX4_isSameAt_64 rfl ?_
        exact q_to (ih _ _ (by omega) (by rw [← hL]; first | exact (lk_yes0 c20).symm | exact (lk_yes1 c44).symm)) ⟨rfl, rfl, rfl, rfl, rfl, rfl, trivial⟩
      refine q_iconst F dX4_isSameAt_47 hc_0 ?_
      exact (q_reti F hr rfl dX4_isSameAt_48 (Nat.le_of_ble_eq_true rfl) (Nat.le_of_ble_eq_true rfl) ⟨by rw [← hL, lk_no c20 c44]; rfl, rfl⟩)
  exact q_to (L 4 o t (Nat.le_refl _) rfl) ⟨rfl, rfl, rfl, rfl, rfl, rfl, trivial⟩

def pfit (S : hS) (a : Nat) (name port : Int32) : Bool := decide (sF S 22 a = port) && like (sF S 21 a) (sF S 20 a) name
set_option maxHeartbeats 4000000 in
set_option maxRecDepth 100000 in
theorem c_X2_fits {l : Launch} {g : hG} {X : va_W} {S : hS} {a : Nat} {name port : Int32} (hO2 : isO S a 2) : hMet l yX2_fits wsX2_fits rm_X2_fits g X S [.ref a, .int name, .int port] (pI (b2 (pfit S a name port)) S) := by
  refine h_start (maxL := 3) (ret := (some .boolean)) (by decide) rfl (Nat.le_of_ble_eq_true rfl) ?_
  intro p e s m args below meth c F hr hinit
  refine q_aload_n F 0 dX2_fits_0 rfl rfl ?_
  refine qg_X2_16 F hO2 dX2_fits_1 ?_
  refine q_iload_n F 2 dX2_fits_4 rfl rfl ?_
  refine q_icmp_ne F 27 dX2_fits_5 rfl (fun c5 => ?_) (fun c5 => ?_)
  · refine q_iconst F dX2_fits_27 hc_0 ?_
    exact (q_reti F hr rfl dX2_fits_28 (Nat.le_of_ble_eq_true rfl) (Nat.le_of_ble_eq_true rfl) ⟨by simp_all [pfit, b2], rfl⟩)
  refine q_aload_n F 0 dX2_fits_8 rfl rfl ?_
  refine qg_X2_13 F hO2 dX2_fits_9 ?_
  refine q_aload_n F 0 dX2_fits_12 rfl rfl ?_
  refine qg_X2_7 F hO2 dX2_fits_13 ?_
  refine q_iload_n F 1 dX2_fits_16 rfl rfl ?_
  refine q_callSN_i F (c_X4_isSameAt) gX2_fits_X4_isSameAt_n23 rfl hd_X4_isSameAt ⟨Nat.le_of_ble_eq_true rfl, Nat.le_of_ble_eq_true rfl⟩ (List.mem_of_getElem? (i := 2) (by decide +kernel)) (List.mem_of_getElem? (i := 1) rfl) (List.mem_of_getElem? (i := 71) (by decide +kernel)) rfl rfl (Nat.le_of_ble_eq_true rfl) dX2_fits_17 ⟨Nat.le_of_ble_eq_true rfl, Nat.le_of_ble_eq_true rfl⟩ ?_
  refine q_if_eq F 27 dX2_fits_20 rfl (fun c20 => ?_) (fun c20 => ?_)
  · refine q_iconst F dX2_fits_27 hc_0 ?_
    exact (q_reti F hr rfl dX2_fits_28 (Nat.le_of_ble_eq_true rfl) (Nat.le_of_ble_eq_true rfl) ⟨by simp_all [pfit, b2], rfl⟩)
  refine q_iconst F dX2_fits_23 hc_1 ?_
  refine q_goto F 28 dX2_fits_24 rfl ?_
  exact (q_reti F hr rfl dX2_fits_28 (Nat.le_of_ble_eq_true rfl) (Nat.le_of_ble_eq_true rfl) ⟨by simp_all [pfit, b2], rfl⟩)

set_option maxHeartbeats 4000000 in
set_option maxRecDepth 100000 in
theorem c_X1_hashOf {l : Launch} {g : hG} {X : va_W} {S : hS} {name salt : Int32} : hMet l yX1_hashOf wsX1_hashOf rm_X1_hashOf g X S [.int name, .int salt] (pI (hsh name salt) S) := by
  refine h_start (maxL := 2) (ret := (some .int)) (by decide) rfl (Nat.le_of_ble_eq_true rfl) ?_
  intro p e s m args below meth c F hr hinit
  refine q_bipush (v := 31) F dX1_hashOf_0 (by decide) ?_
  refine q_iload_n F 0 dX1_hashOf_2 rfl rfl ?_
  refine q_imul F dX1_hashOf_3 ?_
  refine q_bipush (v := 17) F dX1_hashOf_4 (by decide) ?_
  refine q_iload_n F 1 dX1_hashOf_6 rfl rfl ?_
  refine q_imul F dX1_hashOf_7 ?_
  refine q_iadd F dX1_hashOf_8 ?_
  refine q_iconst F dX1_hashOf_9 hc_5 ?_
  refine q_iadd F dX1_hashOf_10 ?_
  refine q_sipush (v := 499) F dX1_hashOf_11 (by decide) ?_
  refine q_irem F dX1_hashOf_14 (by decide) ?_
  exact (q_reti F hr rfl dX1_hashOf_15 (Nat.le_of_ble_eq_true rfl) (Nat.le_of_ble_eq_true rfl) ⟨rfl, rfl⟩)

set_option maxHeartbeats 4000000 in
set_option maxRecDepth 100000 in
theorem c_X1_hasEnded {l : Launch} {g : hG} {X : va_W} {S : hS} {a : Nat} {day : Int32} (hO1 : isO S a 1) : hMet l yX1_hasEnded wsX1_hasEnded rm_X1_hasEnded g X S [.ref a, .int day] (pI (b2 (en day (sF S 13 a))) S) := by
  refine h_start (maxL := 2) (ret := (some .boolean)) (by decide) rfl (Nat.le_of_ble_eq_true rfl) ?_
  intro p e s m args below meth c F hr hinit
  refine q_aload_n F 0 dX1_hasEnded_0 rfl rfl ?_
  refine qg_X1_27 F hO1 dX1_hasEnded_1 ?_
  refine q_iconst F dX1_hasEnded_4 hc_m1 ?_
  refine q_icmp_eq F 20 dX1_hasEnded_5 rfl (fun c5 => ?_) (fun c5 => ?_)
  · refine q_iconst F dX1_hasEnded_20 hc_0 ?_
    exact (q_reti F hr rfl dX1_hasEnded_21 (Nat.le_of_ble_eq_true rfl) (Nat.le_of_ble_eq_true rfl) ⟨by simp_all [en, b2, Int32.not_lt, Int32.not_le], rfl⟩)
  refine q_iload_n F 1 dX1_hasEnded_8 rfl rfl ?_
  refine q_aload_n F 0 dX1_hasEnded_9 rfl rfl ?_
  refine qg_X1_27 F hO1 dX1_hasEnded_10 ?_
  refine q_icmp_lt F 20 dX1_hasEnded_13 rfl (fun c13 => ?_) (fun c13 => ?_)
  · refine q_iconst F dX1_hasEnded_20 hc_0 ?_
    exact (q_reti F hr rfl dX1_hasEnded_21 (Nat.le_of_ble_eq_true rfl) (Nat.le_of_ble_eq_true rfl) ⟨by simp_all [en, b2, Int32.not_lt, Int32.not_le], rfl⟩)
  refine q_iconst F dX1_hasEnded_16 hc_1 ?_
  refine q_goto F 21 dX1_hasEnded_17 rfl ?_
  exact (q_reti F hr rfl dX1_hasEnded_21 (Nat.le_of_ble_eq_true rfl) (Nat.le_of_ble_eq_true rfl) ⟨by simp_all [en, b2, Int32.not_lt, Int32.not_le], rfl⟩)

set_option maxHeartbeats 4000000 in
set_option maxRecDepth 100000 in
theorem c_X1_hasEither {l : Launch} {g : hG} {X : va_W} {S : hS} {a : Nat} {x y : Int32} (hO1 : isO S a 1) : hMet l yX1_hasEither wsX1_hasEither rm_X1_hasEither g X S [.ref a, .int x, .int y] (pI (b2 (decide (sF S 11 a = x) || decide (sF S 11 a = y))) S) := by
  refine h_start (maxL := 3) (ret := (some .boolean)) (by decide) rfl (Nat.le_of_ble_eq_true rfl) ?_
  intro p e s m args below meth c F hr hinit
  refine q_aload_n F 0 dX1_hasEither_0 rfl rfl ?_
  refine qg_X1_21 F hO1 dX1_hasEither_1 ?_
  refine q_iload_n F 1 dX1_hasEither_4 rfl rfl ?_
  refine q_icmp_eq F 16 dX1_hasEither_5 rfl (fun c5 => ?_) (fun c5 => ?_)
  · refine q_iconst F dX1_hasEither_16 hc_1 ?_
    refine q_goto F 21 dX1_hasEither_17 rfl ?_
    exact (q_reti F hr rfl dX1_hasEither_21 (Nat.le_of_ble_eq_true rfl) (Nat.le_of_ble_eq_true rfl) ⟨by simp_all [b2], rfl⟩)
  refine q_aload_n F 0 dX1_hasEither_8 rfl rfl ?_
  refine qg_X1_21 F hO1 dX1_hasEither_9 ?_
  refine q_iload_n F 2 dX1_hasEither_12 rfl rfl ?_
  refine q_icmp_ne F 20 dX1_hasEither_13 rfl (fun c13 => ?_) (fun c13 => ?_)
  · refine q_iconst F dX1_hasEither_20 hc_0 ?_
    exact (q_reti F hr rfl dX1_hasEither_21 (Nat.le_of_ble_eq_true rfl) (Nat.le_of_ble_eq_true rfl) ⟨by simp_all [b2], rfl⟩)
  refine q_iconst F dX1_hasEither_16 hc_1 ?_
  refine q_goto F 21 dX1_hasEither_17 rfl ?_
  exact (q_reti F hr rfl dX1_hasEither_21 (Nat.le_of_ble_eq_true rfl) (Nat.le_of_ble_eq_true rfl) ⟨by simp_all [b2], rfl⟩)

set_option maxHeartbeats 4000000 in
set_option maxRecDepth 100000 in
theorem c_X3_holds {l : Launch} {g : hG} {X : va_W} {S : hS} {a : Nat} {x y : Int32} (hO3 : isO S a 3) : hMet l yX3_holds wsX3_holds rm_X3_holds g X S [.ref a, .int x, .int y] (pI (b2 (decide (sF S 30 a = x) && (decide (sF S 31 a ≤ y) && decide (y ≤ sF S 32 a)))) S) := by
  refine h_start (maxL := 3) (ret := (some .boolean)) (by decide) rfl (Nat.le_of_ble_eq_true rfl) ?_
  intro p e s m args below meth c F hr hinit
  refine q_aload_n F 0 dX3_holds_0 rfl rfl ?_
  refine qg_X3_7 F hO3 dX3_holds_1 ?_
  refine q_iload_n F 1 dX3_holds_4 rfl rfl ?_
  refine q_icmp_ne F 28 dX3_holds_5 rfl (fun c5 => ?_) (fun c5 => ?_)
  · refine q_iconst F dX3_holds_28 hc_0 ?_
    exact (q_reti F hr rfl dX3_holds_29 (Nat.le_of_ble_eq_true rfl) (Nat.le_of_ble_eq_true rfl) ⟨by first | (simp_all [b2, Int32.not_lt]; done) | (simp_all [b2, Int32.not_lt]; intro h; exact absurd h (Int32.not_le.mpr (by assumption))) | (simp_all [b2, Int32.not_lt]; exact Int32.not_le.mpr (by assumption)), rfl⟩)
  refine q_iload_n F 2 dX3_holds_8 rfl rfl ?_
  refine q_aload_n F 0 dX3_holds_9 rfl rfl ?_
  refine qg_X3_13 F hO3 dX3_holds_10 ?_
  refine q_icmp_lt F 28 dX3_holds_13 rfl (fun c13 => ?_) (fun c13 => ?_)
  · refine q_iconst F dX3_holds_28 hc_0 ?_
    exact (q_reti F hr rfl dX3_holds_29 (Nat.le_of_ble_eq_true rfl) (Nat.le_of_ble_eq_true rfl) ⟨by first | (simp_all [b2, Int32.not_lt]; done) | (simp_all [b2, Int32.not_lt]; intro h; exact absurd h (Int32.not_le.mpr (by assumption))) | (simp_all [b2, Int32.not_lt]; exact Int32.not_le.mpr (by assumption)), rfl⟩)
  refine q_iload_n F 2 dX3_holds_16 rfl rfl ?_
  refine q_aload_n F 0 dX3_holds_17 rfl rfl ?_
  refine qg_X3_16 F hO3 dX3_holds_18 ?_
  refine q_icmp_gt F 28 dX3_holds_21 rfl (fun c21 => ?_) (fun c21 => ?_)
  · refine q_iconst F dX3_holds_28 hc_0 ?_
    exact (q_reti F hr rfl dX3_holds_29 (Nat.le_of_ble_eq_true rfl) (Nat.le_of_ble_eq_true rfl) ⟨by first | (simp_all [b2, Int32.not_lt]; done) | (simp_all [b2, Int32.not_lt]; intro h; exact absurd h (Int32.not_le.mpr (by assumption))) | (simp_all [b2, Int32.not_lt]; exact Int32.not_le.mpr (by assumption)), rfl⟩)
  refine q_iconst F dX3_holds_24 hc_1 ?_
  refine q_goto F 29 dX3_holds_25 rfl ?_
  exact (q_reti F hr rfl dX3_holds_29 (Nat.le_of_ble_eq_true rfl) (Nat.le_of_ble_eq_true rfl) ⟨by first | (simp_all [b2, Int32.not_lt]; done) | (simp_all [b2, Int32.not_lt]; intro h; exact absurd h (Int32.not_le.mpr (by assumption))) | (simp_all [b2, Int32.not_lt]; exact Int32.not_le.mpr (by assumption)), rfl⟩)

set_option maxHeartbeats 4000000 in
set_option maxRecDepth 100000 in
theorem c_X4_kindOf {l : Launch} {g : hG} {X : va_W} {S : hS} {key : Int32} : hMet l yX4_kindOf wsX4_kindOf rm_X4_kindOf g X S [.int key] (pI (key % 3) S) := by
  refine h_start (maxL := 1) (ret := (some .int)) (by decide) rfl (Nat.le_of_ble_eq_true rfl) ?_
  intro p e s m args below meth c F hr hinit
  refine q_iload_n F 0 dX4_kindOf_0 rfl rfl ?_
  refine q_iconst F dX4_kindOf_1 hc_3 ?_
  refine q_irem F dX4_kindOf_2 (by decide) ?_
  exact (q_reti F hr rfl dX4_kindOf_3 (Nat.le_of_ble_eq_true rfl) (Nat.le_of_ble_eq_true rfl) ⟨rfl, rfl⟩)

set_option maxHeartbeats 4000000 in
set_option maxRecDepth 100000 in
theorem c_X1_covers {l : Launch} {g : hG} {X : va_W} {S : hS} {a pa : Nat} {pt : Nat → Nat} {M : Nat → Nat → Int32} {i n : Nat} {name port : Int32} (hG : lnG S a pa) (hL : lnR S a pa pt M i n) : hMet l yX1_covers wsX1_covers rm_X1_covers g X S [.ref a, .int name, .int port] (pI (b2 (mt M i name port)) S) := by
  refine h_start (maxL := 6) (ret := (some .boolean)) (by decide) rfl (Nat.le_of_ble_eq_true rfl) ?_
  intro p e s m args below meth c F hr hinit
  refine q_aload_n F 0 dX1_covers_0 rfl rfl ?_
  refine qg_X1_33 F hG.1 dX1_covers_1 ?_
  refine q_if_eq F 36 dX1_covers_4 rfl (fun c4 => ?_) (fun c4 => ?_)
  · refine q_iconst F dX1_covers_36 hc_0 ?_
    refine q_istore_n F 3 dX1_covers_37 rfl (by decide) rfl ?_
    refine q_iconst F dX1_covers_38 hc_0 ?_
    refine q_istore F dX1_covers_39 (by decide) rfl ?_
    have h9 : M 9 i = -1 := by
      rcases hL.2.2.1 with h | h
      · exact absurd (show sF S 16 a = 0 from c4) (by rw [h.1]; decide)
      · exact h.2
    have L : ∀ (r j : Nat), j + r = n → anyN (fun k => ft M i name port k && dn M i k) j = false → V p l e rm_X1_covers s m args below meth c 6 g X (MQ below (hQ g X (pI (b2 (mt M i name port)) S)) args s rm_X1_covers.cells rm_X1_covers.slots (hA g)) S 0 0 [(0, .ref a), (1, .int name), (2, .int port), (3, .int (b2 (anyN (fun k => ft M i name port k && !dn M i k) j))), (4, .int (nI j))] 41 [] := by
      intro r
      induction r with
      | zero =>
        intro j hjr hD
        refine q_iload F dX1_covers_41 rfl ?_
        refine q_aload_n F 0 dX1_covers_43 rfl rfl ?_
        refine qg_X1_30 F hG.1 dX1_covers_44 ?_
        refine q_icmp_ge F 87 dX1_covers_47 rfl (fun c47 => ?_) (fun c47 => ?_)
        · refine q_iload_n F 3 dX1_covers_87 rfl rfl ?_
          exact (q_reti F hr (b2_nar _) dX1_covers_88 (Nat.le_of_ble_eq_true rfl) (Nat.le_of_ble_eq_true rfl) ⟨by have hjn : j = n := (by omega); subst hjn; rw [mt, if_pos h9, sz_of hL, mt_end hD], rfl⟩)
        exact absurd c47 (gT hL.2.1.1 rfl (by omega) (by have := hL.2.1.2.2; omega))
      | succ r ih =>
        intro j hjr hD
        have hj : j < n := by omega
        have hf : pfit S (pt j) name port = ft M i name port j := pfit_ft hL hj
        have hd := den_dn hL hj
        refine q_iload F dX1_covers_41 rfl ?_
        refine q_aload_n F 0 dX1_covers_43 rfl rfl ?_
        refine qg_X1_30 F hG.1 dX1_covers_44 ?_
        refine q_icmp_ge F 87 dX1_covers_47 rfl (fun c47 => ?_) (fun c47 => ?_)
        · exact absurd c47 (gF hL.2.1.1 rfl (by omega) (by have := hL.2.1.2.2; omega))
        refine q_aload_n F 0 dX1_covers_50 rfl rfl ?_
        refine qg_X1_11 F hG.2.1 hG.1 dX1_covers_51 ?_
        refine q_iload F dX1_covers_54 rfl ?_
        refine q_aald_p F hG.2.2.1 hG.2.2.2 rfl (Nat.lt_of_lt_of_le hj hL.2.1.2.2) (by decide) (hL.2.2.2 j hj).1 dX1_covers_56 ?_
        refine q_astore F dX1_covers_57 (by decide) rfl ?_
        refine q_aload F dX1_covers_59 rfl ?_
        refine q_iload_n F 1 dX1_covers_61 rfl rfl ?_
        refine q_iload_n F 2 dX1_covers_62 rfl rfl ?_
        refine q_callV_i F (c_X2_fits (hL.2.2.2 j hj).2.1) gX1_covers_X2_fits rfl hd_X2_fits ⟨Nat.le_of_ble_eq_true rfl, Nat.le_of_ble_eq_true rfl⟩ (hL.2.2.2 j hj).2.1 rfl rfl rfl (Nat.le_of_ble_eq_true rfl) dX1_covers_63 ⟨Nat.le_of_ble_eq_true rfl, Nat.le_of_ble_eq_true rfl⟩ ?_
        refine q_if_eq F 81 dX1_covers_66 rfl (fun c66 => ?_) (fun c66 => ?_)
        · refine q_iinc F (nI (j + 1)) dX1_covers_81 rfl (nI_inc j) (by decide) rfl ?_
          refine q_goto F 41 dX1_covers_84 rfl ?_
          exact q_to (ih (j + 1) (by omega) (by rw [hf] at c66; rw [anyN, hD]; simp_all [b2_0])) ⟨rfl, rfl, rfl, congrArg (fun z => some (Value.int z)) (by rw [hf] at c66; rw [anyN]; simp_all [b2_0, b2]), rfl, trivial⟩
        refine q_aload F dX1_covers_69 rfl ?_
        refine qg_X1_64 F (hL.2.2.2 j hj).2.1 dX1_covers_71 ?_
        refine q_if_eq F 79 dX1_covers_74 rfl (fun c74 => ?_) (fun c74 => ?_)
        · refine q_iconst F dX1_covers_79 hc_1 ?_
          refine q_istore_n F 3 dX1_covers_80 rfl (by decide) rfl ?_
          refine q_iinc F (nI (j + 1)) dX1_covers_81 rfl (nI_inc j) (by decide) rfl ?_
          refine q_goto F 41 dX1_covers_84 rfl ?_
          exact q_to (ih (j + 1) (by omega) (by rw [hf] at c66; rw [anyN, hD]; simp_all [b2_0])) ⟨rfl, rfl, rfl, congrArg (fun z => some (Value.int z)) (by rw [hf] at c66; rw [anyN]; simp_all [b2_0, b2]), rfl, trivial⟩
        refine q_iconst F dX1_covers_77 hc_0 ?_
        exact (q_reti F hr rfl dX1_covers_78 (Nat.le_of_ble_eq_true rfl) (Nat.le_of_ble_eq_true rfl) ⟨by rw [hf] at c66; rw [mt, if_pos h9, sz_of hL, mt_den hj (by simpa [b2_0] using c66) (by simp [hd, c74])]; rfl, rfl⟩)
    exact q_to (L n 0 (by omega) rfl) ⟨rfl, rfl, rfl, rfl, rfl, trivial⟩
  refine q_iload_n F 2 dX1_covers_7 rfl rfl ?_
  refine q_aload_n F 0 dX1_covers_8 rfl rfl ?_
  refine qg_X1_57 F hG.1 dX1_covers_9 ?_
  refine q_icmp_ne F 34 dX1_covers_12 rfl (fun c12 => ?_) (fun c12 => ?_)
  · refine q_iconst F dX1_covers_34 hc_0 ?_
    exact (q_reti F hr rfl dX1_covers_35 (Nat.le_of_ble_eq_true rfl) (Nat.le_of_ble_eq_true rfl) ⟨by rw [mt_hash hL c4]; first | simp [b2, c12, c27] | simp [b2, c12], rfl⟩)
  refine q_iload_n F 1 dX1_covers_15 rfl rfl ?_
  refine q_aload_n F 0 dX1_covers_16 rfl rfl ?_
  refine qg_X1_54 F hG.1 dX1_covers_17 ?_
  refine q_callS_i F (c_X1_hashOf) gX1_covers_X1_hashOf rfl hd_X1_hashOf ⟨Nat.le_of_ble_eq_true rfl, Nat.le_of_ble_eq_true rfl⟩ rfl rfl (Nat.le_of_ble_eq_true rfl) dX1_covers_20 ⟨Nat.le_of_ble_eq_true rfl, Nat.le_of_ble_eq_true rfl⟩ ?_
  refine q_aload_n F 0 dX1_covers_23 rfl rfl ?_
  refine qg_X1_51 F hG.1 dX1_covers_24 ?_
  refine q_icmp_ne F 34 dX1_covers_27 rfl (fun c27 => ?_) (fun c27 => ?_)
  · refine q_iconst F dX1_covers_34 hc_0 ?_
    exact (q_reti F hr rfl dX1_covers_35 (Nat.le_of_ble_eq_true rfl) (Nat.le_of_ble_eq_true rfl) ⟨by rw [mt_hash hL c4]; first | simp [b2, c12, c27] | simp [b2, c12], rfl⟩)
  refine q_iconst F dX1_covers_30 hc_1 ?_
  refine q_goto F 35 dX1_covers_31 rfl ?_
  exact (q_reti F hr rfl dX1_covers_35 (Nat.le_of_ble_eq_true rfl) (Nat.le_of_ble_eq_true rfl) ⟨by rw [mt_hash hL c4]; first | simp [b2, c12, c27] | simp [b2, c12], rfl⟩)


