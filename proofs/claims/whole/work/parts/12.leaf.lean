set_option maxHeartbeats 4000000 in
set_option maxRecDepth 100000 in
/-- isSameAt -/
theorem c_X4_isSameAt {l : Launch} {g : hG} {X : va_W} {S : hS} {pl o t : Int32} : hMet l yX4_isSameAt wsX4_isSameAt rm_X4_isSameAt g X S [.int pl, .int o, .int t] (pI (b2 (like pl o t)) S) := by
  refine h_start (maxL := 7) (ret := (some .boolean)) (by decide) rfl (Nat.le_of_ble_eq_true rfl) ?_
  intro p e s m args below meth c F hr hinit
  refine q_iload_n F 1 dX4_isSameAt_0 rfl rfl ?_
  refine q_istore_n F 3 dX4_isSameAt_1 rfl (by decide) rfl ?_
  refine q_iload_n F 2 dX4_isSameAt_2 rfl rfl ?_
  refine q_istore F dX4_isSameAt_3 (by decide) rfl ?_
  refine q_iconst F dX4_isSameAt_5 hc_3 ?_
  refine q_istore F dX4_isSameAt_6 (by decide) rfl ?_
  have L : ∀ (k : Nat) (a b : Int32), k ≤ 4 → lk pl k a b = like pl o t → V p l e rm_X4_isSameAt s m args below meth c 7 g X (MQ below (hQ g X (pI (b2 (like pl o t)) S)) args s rm_X4_isSameAt.cells rm_X4_isSameAt.slots (hA g)) S 0 0 [(0, .int pl), (1, .int o), (2, .int t), (3, .int a), (4, .int b), (5, .int (dN k))] 8 [] := by
    intro k
    induction k with
    | zero =>
      intro a b hk hL
      refine q_iload F dX4_isSameAt_8 rfl ?_
      refine q_if_lt F 67 dX4_isSameAt_10 rfl (fun c10 => ?_) (fun c10 => ?_)
      · refine q_iconst F dX4_isSameAt_67 hc_1 ?_
        exact (q_reti F hr rfl dX4_isSameAt_68 (Nat.le_of_ble_eq_true rfl) (Nat.le_of_ble_eq_true rfl) ⟨by rw [← hL]; rfl, rfl⟩)
      exact absurd c10 (by decide)
    | succ k ih =>
      intro a b hk hL
      refine q_iload F dX4_isSameAt_8 rfl ?_
      refine q_if_lt F 67 dX4_isSameAt_10 rfl (fun c10 => ?_) (fun c10 => ?_)
      · exact absurd c10 (dN_s (by omega))
      refine q_iload_n F 0 dX4_isSameAt_13 rfl rfl ?_
      refine q_iload F dX4_isSameAt_14 rfl ?_
      refine q_ishr F dX4_isSameAt_16 ?_
      refine q_iconst F dX4_isSameAt_17 hc_1 ?_
      refine q_iand F dX4_isSameAt_18 ?_
      refine q_iconst F dX4_isSameAt_19 hc_1 ?_
      refine q_icmp_ne F 27 dX4_isSameAt_20 rfl (fun c20 => ?_) (fun c20 => ?_)
      · refine q_iconst F dX4_isSameAt_27 hc_0 ?_
        refine q_istore F dX4_isSameAt_28 (by decide) rfl ?_
        refine q_iload F dX4_isSameAt_30 rfl ?_
        refine q_if_eq F 49 dX4_isSameAt_32 rfl (fun c32 => ?_) (fun c32 => ?_)
        · refine q_iload_n F 3 dX4_isSameAt_49 rfl rfl ?_
          refine q_bipush (v := 10) F dX4_isSameAt_50 (by decide) ?_
          refine q_idiv F dX4_isSameAt_52 (by decide) ?_
          refine q_istore_n F 3 dX4_isSameAt_53 rfl (by decide) rfl ?_
          refine q_iload F dX4_isSameAt_54 rfl ?_
          refine q_bipush (v := 10) F dX4_isSameAt_56 (by decide) ?_
          refine q_idiv F dX4_isSameAt_58 (by decide) ?_
          refine q_istore F dX4_isSameAt_59 (by decide) rfl ?_
          refine q_iinc F (dN k) dX4_isSameAt_61 rfl (dN_dec k) (by decide) rfl ?_
          refine q_goto F 8 dX4_isSameAt_64 rfl ?_
          exact q_to (ih _ _ (by omega) (by rw [← hL]; first | exact (lk_yes0 c20).symm | exact (lk_yes1 c44).symm)) ⟨rfl, rfl, rfl, rfl, rfl, rfl, trivial⟩
        exact absurd c32 (by decide)
      refine q_iconst F dX4_isSameAt_23 hc_1 ?_
      refine q_goto F 28 dX4_isSameAt_24 rfl ?_
      refine q_istore F dX4_isSameAt_28 (by decide) rfl ?_
      refine q_iload F dX4_isSameAt_30 rfl ?_
      refine q_if_eq F 49 dX4_isSameAt_32 rfl (fun c32 => ?_) (fun c32 => ?_)
      · exact absurd c32 (by decide)
      refine q_iload_n F 3 dX4_isSameAt_35 rfl rfl ?_
      refine q_bipush (v := 10) F dX4_isSameAt_36 (by decide) ?_
      refine q_irem F dX4_isSameAt_38 (by decide) ?_
      refine q_iload F dX4_isSameAt_39 rfl ?_
      refine q_bipush (v := 10) F dX4_isSameAt_41 (by decide) ?_
      refine q_irem F dX4_isSameAt_43 (by decide) ?_
      refine q_icmp_eq F 49 dX4_isSameAt_44 rfl (fun c44 => ?_) (fun c44 => ?_)
      · refine q_iload_n F 3 dX4_isSameAt_49 rfl rfl ?_
        refine q_bipush (v := 10) F dX4_isSameAt_50 (by decide) ?_
        refine q_idiv F dX4_isSameAt_52 (by decide) ?_
        refine q_istore_n F 3 dX4_isSameAt_53 rfl (by decide) rfl ?_
        refine q_iload F dX4_isSameAt_54 rfl ?_
        refine q_bipush (v := 10) F dX4_isSameAt_56 (by decide) ?_
        refine q_idiv F dX4_isSameAt_58 (by decide) ?_
        refine q_istore F dX4_isSameAt_59 (by decide) rfl ?_
        refine q_iinc F (dN k) dX4_isSameAt_61 rfl (dN_dec k) (by decide) rfl ?_
        refine q_goto F 8 dX4_isSameAt_64 rfl ?_
        exact q_to (ih _ _ (by omega) (by rw [← hL]; first | exact (lk_yes0 c20).symm | exact (lk_yes1 c44).symm)) ⟨rfl, rfl, rfl, rfl, rfl, rfl, trivial⟩
      refine q_iconst F dX4_isSameAt_47 hc_0 ?_
      exact (q_reti F hr rfl dX4_isSameAt_48 (Nat.le_of_ble_eq_true rfl) (Nat.le_of_ble_eq_true rfl) ⟨by rw [← hL, lk_no c20 c44]; rfl, rfl⟩)
  exact q_to (L 4 o t (Nat.le_refl _) rfl) ⟨rfl, rfl, rfl, rfl, rfl, rfl, trivial⟩

def pfit (S : hS) (a : Nat) (name port : Int32) : Bool := decide (sF S 22 a = port) && like (sF S 21 a) (sF S 20 a) name
set_option maxHeartbeats 4000000 in
set_option maxRecDepth 100000 in
theorem c_X2_fits {l : Launch} {g : hG} {X : va_W} {S : hS} {a : Nat} {name port : Int32} (hO2 : isO S a 2) : hMet l yX2_fits wsX2_fits rm_X2_fits g X S [.ref a, .int name, .int port] (pI (b2 (pfit S a name port)) S) := by
  refine h_start (maxL := 3) (ret := (some .boolean)) (by decide) rfl (Nat.le_of_ble_eq_true rfl) ?_
  intro p e s m args below meth c F hr hinit
  refine q_aload_n F 0 dX2_fits_0 rfl rfl ?_
  refine qg_X2_16 F hO2 dX2_fits_1 ?_
  refine q_iload_n F 2 dX2_fits_4 rfl rfl ?_
  refine q_icmp_ne F 27 dX2_fits_5 rfl (fun c5 => ?_) (fun c5 => ?_)
  · refine q_iconst F dX2_fits_27 hc_0 ?_
    exact (q_reti F hr rfl dX2_fits_28 (Nat.le_of_ble_eq_true rfl) (Nat.le_of_ble_eq_true rfl) ⟨by simp_all [pfit, b2], rfl⟩)
  refine q_aload_n F 0 dX2_fits_8 rfl rfl ?_
  refine qg_X2_13 F hO2 dX2_fits_9 ?_
  refine q_aload_n F 0 dX2_fits_12 rfl rfl ?_
  refine qg_X2_7 F hO2 dX2_fits_13 ?_
  refine q_iload_n F 1 dX2_fits_16 rfl rfl ?_
  refine q_callSN_i F (c_X4_isSameAt) gX2_fits_X4_isSameAt_n23 rfl hd_X4_isSameAt ⟨Nat.le_of_ble_eq_true rfl, Nat.le_of_ble_eq_true rfl⟩ (List.mem_of_getElem? (i := 2) (by decide +kernel)) (List.mem_of_getElem? (i := 1) rfl) (List.mem_of_getElem? (i := 334) (by decide +kernel)) rfl rfl (Nat.le_of_ble_eq_true rfl) dX2_fits_17 ⟨Nat.le_of_ble_eq_true rfl, Nat.le_of_ble_eq_true rfl⟩ ?_
  refine q_if_eq F 27 dX2_fits_20 rfl (fun c20 => ?_) (fun c20 => ?_)
  · refine q_iconst F dX2_fits_27 hc_0 ?_
    exact (q_reti F hr rfl dX2_fits_28 (Nat.le_of_ble_eq_true rfl) (Nat.le_of_ble_eq_true rfl) ⟨by simp_all [pfit, b2], rfl⟩)
  refine q_iconst F dX2_fits_23 hc_1 ?_
  refine q_goto F 28 dX2_fits_24 rfl ?_
  exact (q_reti F hr rfl dX2_fits_28 (Nat.le_of_ble_eq_true rfl) (Nat.le_of_ble_eq_true rfl) ⟨by simp_all [pfit, b2], rfl⟩)

