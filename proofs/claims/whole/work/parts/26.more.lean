/-! the program: names, back, pair, triple -/
def nmO (n9 a b : Int32) : Int32 := if b < a then b - a + n9 + 1 else b - a + 1
abbrev namE (n : Nat) (sz : Int64) (ar fi : Int32) : va_E := .inr (4, [.int (nI n), .int 2, .int 1, .long sz, .int ar, .int fi])
set_option maxHeartbeats 4000000 in
set_option maxRecDepth 100000 in
theorem c_names_out (l : Launch) (D : va_G) (B : Nat) (K : Nat → ClassId) (f : St) (q : Nat → Nat) (n na : Nat) (n9 a b : Int32) (h0 : f (q 0) = some (.inr (6, [.ref (q 1), .ref (q 2), .ref (q 3), .ref (q 4), .ref (q 5), .ref (q 6), .int (nI n), .int (nI na)]))) (hout : ¬ (¬ n9 < 1 ∧ ¬ 20 < n9 ∧ ¬ upC a (n9 - 1) = 0 ∧ ¬ upC b (n9 - 1) = 0)) : Kc l D B K yX8_names cX8_names 5 ((some .int)) 50 1 7 [.ref (q 0), .int n9, .int a, .int b] f (Qi_ D B (fun r f9 => r = -102 ∧ f9 = f)) := by
  refine v_met [(0, .ref (q 0)), (1, .int n9), (2, .int a), (3, .int b)] (by decide) (Nat.le_of_ble_eq_true rfl) rfl ?_
  intro p e s m args below meth c C hr hlk hin
  refine v_iload_n C dX8_names_0 rfl rfl ?_
  refine v_iconst (v := 1) C dX8_names_1 (by decide) ?_
  refine v_icmp_lt (tgt := 31) C dX8_names_2 (by decide) (fun c_2 => ?_) (fun c_2 => ?_)
  · refine v_bipush (v := (-102)) C dX8_names_31 (by decide) ?_
    exact v_iret C hr hlk dX8_names_33 (Nat.le_of_ble_eq_true rfl) (Nat.le_of_ble_eq_true rfl) ⟨rfl, rfl⟩
  · refine v_iload_n C dX8_names_5 rfl rfl ?_
    refine v_bipush (v := 20) C dX8_names_6 (by decide) ?_
    refine v_icmp_gt (tgt := 31) C dX8_names_8 (by decide) (fun c_8 => ?_) (fun c_8 => ?_)
    · refine v_bipush (v := (-102)) C dX8_names_31 (by decide) ?_
      exact v_iret C hr hlk dX8_names_33 (Nat.le_of_ble_eq_true rfl) (Nat.le_of_ble_eq_true rfl) ⟨rfl, rfl⟩
    · refine v_iload_n C dX8_names_11 rfl rfl ?_
      refine v_iload_n C dX8_names_12 rfl rfl ?_
      refine v_iconst (v := 1) C dX8_names_13 (by decide) ?_
      refine v_isub C dX8_names_14 ?_
      refine v_ci (r_S C (c_isUpTo l D B K _ _ _) dX8_names_15 g_ml_X8_52 g_st_yX8_isUpTo g_in_X8 g_cd_yX8_isUpTo (rn_le (by decide)) (by decide) rfl hdn_yX8_isUpTo (Nat.le_of_ble_eq_true rfl) ⟨Nat.le_of_ble_eq_true rfl, Nat.le_of_ble_eq_true rfl⟩) (fun r_15 f_15 hp_15 => ?_)
      obtain ⟨rfl, rfl⟩ := hp_15
      refine v_if_eq (tgt := 31) C dX8_names_18 (by decide) (fun c_18 => ?_) (fun c_18 => ?_)
      · refine v_bipush (v := (-102)) C dX8_names_31 (by decide) ?_
        exact v_iret C hr hlk dX8_names_33 (Nat.le_of_ble_eq_true rfl) (Nat.le_of_ble_eq_true rfl) ⟨rfl, rfl⟩
      · refine v_iload_n C dX8_names_21 rfl rfl ?_
        refine v_iload_n C dX8_names_22 rfl rfl ?_
        refine v_iconst (v := 1) C dX8_names_23 (by decide) ?_
        refine v_isub C dX8_names_24 ?_
        refine v_ci (r_S C (c_isUpTo l D B K _ _ _) dX8_names_25 g_ml_X8_52 g_st_yX8_isUpTo g_in_X8 g_cd_yX8_isUpTo (rn_le (by decide)) (by decide) rfl hdn_yX8_isUpTo (Nat.le_of_ble_eq_true rfl) ⟨Nat.le_of_ble_eq_true rfl, Nat.le_of_ble_eq_true rfl⟩) (fun r_25 f_25 hp_25 => ?_)
        obtain ⟨rfl, rfl⟩ := hp_25
        refine v_if_ne (tgt := 34) C dX8_names_28 (by decide) (fun c_28 => ?_) (fun c_28 => ?_)
        · exact absurd ⟨c_2, c_8, c_18, c_28⟩ hout
        · refine v_bipush (v := (-102)) C dX8_names_31 (by decide) ?_
          exact v_iret C hr hlk dX8_names_33 (Nat.le_of_ble_eq_true rfl) (Nat.le_of_ble_eq_true rfl) ⟨rfl, rfl⟩

set_option maxHeartbeats 4000000 in
set_option maxRecDepth 100000 in
theorem c_names_full (l : Launch) (D : va_G) (B : Nat) (K : Nat → ClassId) (f : St) (q : Nat → Nat) (n na : Nat) (n9 a b : Int32) (h0 : f (q 0) = some (.inr (6, [.ref (q 1), .ref (q 2), .ref (q 3), .ref (q 4), .ref (q 5), .ref (q 6), .int (nI n), .int (nI na)]))) (hin9 : ¬ n9 < 1 ∧ ¬ 20 < n9 ∧ ¬ upC a (n9 - 1) = 0 ∧ ¬ upC b (n9 - 1) = 0) (hn : n = 40) : Kc l D B K yX8_names cX8_names 5 ((some .int)) 50 1 7 [.ref (q 0), .int n9, .int a, .int b] f (Qi_ D B (fun r f9 => r = -104 ∧ f9 = f)) := by
  refine v_met [(0, .ref (q 0)), (1, .int n9), (2, .int a), (3, .int b)] (by decide) (Nat.le_of_ble_eq_true rfl) rfl ?_
  intro p e s m args below meth c C hr hlk hin
  refine v_iload_n C dX8_names_0 rfl rfl ?_
  refine v_iconst (v := 1) C dX8_names_1 (by decide) ?_
  refine v_icmp_lt (tgt := 31) C dX8_names_2 (by decide) (fun c_2 => absurd c_2 hin9.1) (fun c_2 => ?_)
  refine v_iload_n C dX8_names_5 rfl rfl ?_
  refine v_bipush (v := 20) C dX8_names_6 (by decide) ?_
  refine v_icmp_gt (tgt := 31) C dX8_names_8 (by decide) (fun c_8 => absurd c_8 hin9.2.1) (fun c_8 => ?_)
  refine v_iload_n C dX8_names_11 rfl rfl ?_
  refine v_iload_n C dX8_names_12 rfl rfl ?_
  refine v_iconst (v := 1) C dX8_names_13 (by decide) ?_
  refine v_isub C dX8_names_14 ?_
  refine v_ci (r_S C (c_isUpTo l D B K _ _ _) dX8_names_15 g_ml_X8_52 g_st_yX8_isUpTo g_in_X8 g_cd_yX8_isUpTo (rn_le (by decide)) (by decide) rfl hdn_yX8_isUpTo (Nat.le_of_ble_eq_true rfl) ⟨Nat.le_of_ble_eq_true rfl, Nat.le_of_ble_eq_true rfl⟩) (fun r_15 f_15 hp_15 => ?_)
  obtain ⟨rfl, rfl⟩ := hp_15
  refine v_if_eq (tgt := 31) C dX8_names_18 (by decide) (fun c_18 => absurd c_18 hin9.2.2.1) (fun c_18 => ?_)
  refine v_iload_n C dX8_names_21 rfl rfl ?_
  refine v_iload_n C dX8_names_22 rfl rfl ?_
  refine v_iconst (v := 1) C dX8_names_23 (by decide) ?_
  refine v_isub C dX8_names_24 ?_
  refine v_ci (r_S C (c_isUpTo l D B K _ _ _) dX8_names_25 g_ml_X8_52 g_st_yX8_isUpTo g_in_X8 g_cd_yX8_isUpTo (rn_le (by decide)) (by decide) rfl hdn_yX8_isUpTo (Nat.le_of_ble_eq_true rfl) ⟨Nat.le_of_ble_eq_true rfl, Nat.le_of_ble_eq_true rfl⟩) (fun r_25 f_25 hp_25 => ?_)
  obtain ⟨rfl, rfl⟩ := hp_25
  refine v_if_ne (tgt := 34) C dX8_names_28 (by decide) (fun c_28 => ?_) (fun c_28 => absurd c_28 hin9.2.2.2)
  refine v_aload_n C dX8_names_34 rfl rfl ?_
  refine v_ci (r_V C (c_isFull_yes l D B K _ q n na h0 hn) dX8_names_35 h0 rfl g_ml_X8_56 g_im_yX8_isFull g_se_X8_yX8_isFull_yX8_isFull g_in_X8 g_cd_yX8_isFull (rn_le (by decide)) (by decide) rfl rfl hdn_yX8_isFull (Nat.le_of_ble_eq_true rfl) ⟨Nat.le_of_ble_eq_true rfl, Nat.le_of_ble_eq_true rfl⟩) (fun r_35 f_35 hp_35 => ?_)
  obtain ⟨rfl, rfl⟩ := hp_35
  refine v_if_eq (tgt := 44) C dX8_names_38 (by decide) (fun c_38 => absurd c_38 (by decide)) (fun _ => ?_)
  refine v_bipush (v := (-104)) C dX8_names_41 (by decide) ?_
  exact v_iret C hr hlk dX8_names_43 (Nat.le_of_ble_eq_true rfl) (Nat.le_of_ble_eq_true rfl) ⟨rfl, rfl⟩

set_option maxHeartbeats 4000000 in
set_option maxRecDepth 100000 in
theorem c_names_new (l : Launch) (D : va_G) (B : Nat) (K : Nat → ClassId) (f : St) (q : Nat → Nat) (n na : Nat) (g : Nat → Option Nat) (n9 a b : Int32) (h0 : f (q 0) = some (.inr (6, [.ref (q 1), .ref (q 2), .ref (q 3), .ref (q 4), .ref (q 5), .ref (q 6), .int (nI n), .int (nI na)]))) (h4 : f (q 4) = some (.inl (K 3, 40, .inr (.inr (.inr (.inr (g))))))) (hq : ∀ i j, i < 15 → j < 15 → q i = q j → i = j) (hqs : ∀ j, j < 15 → ∃ x, f (q j) = some x) (hin9 : ¬ n9 < 1 ∧ ¬ 20 < n9 ∧ ¬ upC a (n9 - 1) = 0 ∧ ¬ upC b (n9 - 1) = 0) (hn : n < 40) : Kc l D B K yX8_names cX8_names 5 ((some .int)) 50 1 7 [.ref (q 0), .int n9, .int a, .int b] f (Qi_ D B (fun r f9 => r = nI n ∧ ∃ b9, f b9 = none ∧ f9 = addF K q (va_up f b9 (some (namE n (nmO n9 a b).toInt64 n9 a))) n na g b9)) := by
  refine v_met [(0, .ref (q 0)), (1, .int n9), (2, .int a), (3, .int b)] (by decide) (Nat.le_of_ble_eq_true rfl) rfl ?_
  intro p e s m args below meth c C hr hlk hin
  refine v_iload_n C dX8_names_0 rfl rfl ?_
  refine v_iconst (v := 1) C dX8_names_1 (by decide) ?_
  refine v_icmp_lt (tgt := 31) C dX8_names_2 (by decide) (fun c_2 => absurd c_2 hin9.1) (fun c_2 => ?_)
  refine v_iload_n C dX8_names_5 rfl rfl ?_
  refine v_bipush (v := 20) C dX8_names_6 (by decide) ?_
  refine v_icmp_gt (tgt := 31) C dX8_names_8 (by decide) (fun c_8 => absurd c_8 hin9.2.1) (fun c_8 => ?_)
  refine v_iload_n C dX8_names_11 rfl rfl ?_
  refine v_iload_n C dX8_names_12 rfl rfl ?_
  refine v_iconst (v := 1) C dX8_names_13 (by decide) ?_
  refine v_isub C dX8_names_14 ?_
  refine v_ci (r_S C (c_isUpTo l D B K _ _ _) dX8_names_15 g_ml_X8_52 g_st_yX8_isUpTo g_in_X8 g_cd_yX8_isUpTo (rn_le (by decide)) (by decide) rfl hdn_yX8_isUpTo (Nat.le_of_ble_eq_true rfl) ⟨Nat.le_of_ble_eq_true rfl, Nat.le_of_ble_eq_true rfl⟩) (fun r_15 f_15 hp_15 => ?_)
  obtain ⟨rfl, rfl⟩ := hp_15
  refine v_if_eq (tgt := 31) C dX8_names_18 (by decide) (fun c_18 => absurd c_18 hin9.2.2.1) (fun c_18 => ?_)
  refine v_iload_n C dX8_names_21 rfl rfl ?_
  refine v_iload_n C dX8_names_22 rfl rfl ?_
  refine v_iconst (v := 1) C dX8_names_23 (by decide) ?_
  refine v_isub C dX8_names_24 ?_
  refine v_ci (r_S C (c_isUpTo l D B K _ _ _) dX8_names_25 g_ml_X8_52 g_st_yX8_isUpTo g_in_X8 g_cd_yX8_isUpTo (rn_le (by decide)) (by decide) rfl hdn_yX8_isUpTo (Nat.le_of_ble_eq_true rfl) ⟨Nat.le_of_ble_eq_true rfl, Nat.le_of_ble_eq_true rfl⟩) (fun r_25 f_25 hp_25 => ?_)
  obtain ⟨rfl, rfl⟩ := hp_25
  refine v_if_ne (tgt := 34) C dX8_names_28 (by decide) (fun c_28 => ?_) (fun c_28 => absurd c_28 hin9.2.2.2)
  refine v_aload_n C dX8_names_34 rfl rfl ?_
  refine v_ci (r_V C (c_isFull_no l D B K _ q n na h0 hn) dX8_names_35 h0 rfl g_ml_X8_56 g_im_yX8_isFull g_se_X8_yX8_isFull_yX8_isFull g_in_X8 g_cd_yX8_isFull (rn_le (by decide)) (by decide) rfl rfl hdn_yX8_isFull (Nat.le_of_ble_eq_true rfl) ⟨Nat.le_of_ble_eq_true rfl, Nat.le_of_ble_eq_true rfl⟩) (fun r_35 f_35 hp_35 => ?_)
  obtain ⟨rfl, rfl⟩ := hp_35
  refine v_if_eq (tgt := 44) C dX8_names_38 (by decide) (fun _ => ?_) (fun c_38 => absurd c_38 (by decide))
  refine v_iload_n C dX8_names_44 rfl rfl ?_
  refine v_iload_n C dX8_names_45 rfl rfl ?_
  refine v_icmp_lt (tgt := 55) C dX8_names_46 (by decide) (fun c_46 => ?_) (fun c_46 => ?_)
  · refine v_iload_n C dX8_names_55 rfl rfl ?_
    refine v_iload_n C dX8_names_56 rfl rfl ?_
    refine v_isub C dX8_names_57 ?_
    refine v_iload_n C dX8_names_58 rfl rfl ?_
    refine v_iadd C dX8_names_59 ?_
    refine v_istore C dX8_names_60 (by decide) rfl ?_
    refine v_aload_n C dX8_names_62 rfl rfl ?_
    refine v_new (ci := 4) (fs := [.int 0, .int 0, .int 0, .long 0, .int 0, .int 0]) C dX8_names_63 rfl in_X4 tyX4 tyX4_ok g_cl_X8_60 g_ins_X4 g_in_X4 (by decide) (Nat.le_of_ble_eq_true rfl) (Nat.le_of_ble_eq_true rfl) (fun b7 hb7 => ?_)
    refine v_dup C dX8_names_66 rfl ?_
    refine v_aload_n C dX8_names_67 rfl rfl ?_
    refine v_get C dX8_names_68 6 (upn hb7 h0) rfl in_X8 (by decide) g_fl_X8_40 (fun _ h9 => h9) rfl ?_
    refine v_iload_n C dX8_names_71 rfl rfl ?_
    refine v_iload_n C dX8_names_72 rfl rfl ?_
    refine v_iload C dX8_names_73 rfl ?_
    refine v_iconst (v := 1) C dX8_names_75 (by decide) ?_
    refine v_iadd C dX8_names_76 ?_
    refine v_cv (r_I C (c_Names_init l D B K _ b7 _ _ _ _ _ _ _ _ _ _ (va_up_self _ _ _)) dX8_names_77 g_ml_X8_62 g_im_yX4_init g_in_X4 g_cd_yX4_init rfl (rn_le (by decide)) (by decide) rfl hdn_yX4_init (Nat.le_of_ble_eq_true rfl) ⟨Nat.le_of_ble_eq_true rfl, Nat.le_of_ble_eq_true rfl⟩) (fun f_77 hp_77 => ?_)
    rw [bx_uu] at hp_77
    subst hp_77
    refine v_ci (r_V C (c_add_X4 l D B K _ q n na g b7 _ _ _ _ _ _ (upn hb7 h0) (upn hb7 h4) hn hq (ne_of_none hqs hb7) (va_up_self _ _ _)) dX8_names_80 (upn hb7 h0) rfl g_ml_X8_65 g_im_yX8_add g_se_X8_yX8_add_yX8_add g_in_X8 g_cd_yX8_add (rn_le (by decide)) (by decide) rfl rfl hdn_yX8_add (Nat.le_of_ble_eq_true rfl) ⟨Nat.le_of_ble_eq_true rfl, Nat.le_of_ble_eq_true rfl⟩) (fun r_80 f_80 hp_80 => ?_)
    obtain ⟨rfl, rfl⟩ := hp_80
    exact v_iret C hr hlk dX8_names_83 (Nat.le_of_ble_eq_true rfl) (Nat.le_of_ble_eq_true rfl) ⟨rfl, b7, hb7, by unfold nmO; rw [if_pos c_46]⟩
  · refine v_iload_n C dX8_names_49 rfl rfl ?_
    refine v_iload_n C dX8_names_50 rfl rfl ?_
    refine v_isub C dX8_names_51 ?_
    refine v_goto (tgt := 60) C dX8_names_52 (by decide) ?_
    refine v_istore C dX8_names_60 (by decide) rfl ?_
    refine v_aload_n C dX8_names_62 rfl rfl ?_
    refine v_new (ci := 4) (fs := [.int 0, .int 0, .int 0, .long 0, .int 0, .int 0]) C dX8_names_63 rfl in_X4 tyX4 tyX4_ok g_cl_X8_60 g_ins_X4 g_in_X4 (by decide) (Nat.le_of_ble_eq_true rfl) (Nat.le_of_ble_eq_true rfl) (fun b7 hb7 => ?_)
    refine v_dup C dX8_names_66 rfl ?_
    refine v_aload_n C dX8_names_67 rfl rfl ?_
    refine v_get C dX8_names_68 6 (upn hb7 h0) rfl in_X8 (by decide) g_fl_X8_40 (fun _ h9 => h9) rfl ?_
    refine v_iload_n C dX8_names_71 rfl rfl ?_
    refine v_iload_n C dX8_names_72 rfl rfl ?_
    refine v_iload C dX8_names_73 rfl ?_
    refine v_iconst (v := 1) C dX8_names_75 (by decide) ?_
    refine v_iadd C dX8_names_76 ?_
    refine v_cv (r_I C (c_Names_init l D B K _ b7 _ _ _ _ _ _ _ _ _ _ (va_up_self _ _ _)) dX8_names_77 g_ml_X8_62 g_im_yX4_init g_in_X4 g_cd_yX4_init rfl (rn_le (by decide)) (by decide) rfl hdn_yX4_init (Nat.le_of_ble_eq_true rfl) ⟨Nat.le_of_ble_eq_true rfl, Nat.le_of_ble_eq_true rfl⟩) (fun f_77 hp_77 => ?_)
    rw [bx_uu] at hp_77
    subst hp_77
    refine v_ci (r_V C (c_add_X4 l D B K _ q n na g b7 _ _ _ _ _ _ (upn hb7 h0) (upn hb7 h4) hn hq (ne_of_none hqs hb7) (va_up_self _ _ _)) dX8_names_80 (upn hb7 h0) rfl g_ml_X8_65 g_im_yX8_add g_se_X8_yX8_add_yX8_add g_in_X8 g_cd_yX8_add (rn_le (by decide)) (by decide) rfl rfl hdn_yX8_add (Nat.le_of_ble_eq_true rfl) ⟨Nat.le_of_ble_eq_true rfl, Nat.le_of_ble_eq_true rfl⟩) (fun r_80 f_80 hp_80 => ?_)
    obtain ⟨rfl, rfl⟩ := hp_80
    exact v_iret C hr hlk dX8_names_83 (Nat.le_of_ble_eq_true rfl) (Nat.le_of_ble_eq_true rfl) ⟨rfl, b7, hb7, by unfold nmO; rw [if_neg c_46]⟩

set_option maxHeartbeats 4000000 in
set_option maxRecDepth 100000 in
theorem c_Back_init (l : Launch) (D : va_G) (B : Nat) (K : Nat → ClassId) (f : St) (a0 b0 ci : Nat) (fs : List Value) (num w : Int32) (sz : Int64) (x0 x1 x2 x3 x4 : Value) (h0 : f a0 = some (.inr (0, [x0, x1, x2, x3, x4]))) (hci : ci = 0 ∨ ci = 1 ∨ ci = 4 ∨ ci = 5) (hb : f b0 = some (.inr (ci, fs))) (hf2 : fs[2]? = some (.int w)) (hf3 : fs[3]? = some (.long sz)) : Kc l D B K yX0_init cX0_init 3 (none) 2 0 0 [.ref a0, .int num, .ref b0] f (Qv_ D B (fun f9 => f9 = va_up f a0 (some (.inr (0, [.int num, .int 4, .int w, .long sz, .ref b0]))))) := by
  refine v_met [(0, .ref a0), (1, .int num), (2, .ref b0)] (by decide) (Nat.le_of_ble_eq_true rfl) rfl ?_
  intro p e s m args below meth c C hr hlk hin
  refine v_aload_n C dX0_init_0 rfl rfl ?_
  refine v_iload_n C dX0_init_1 rfl rfl ?_
  refine v_iconst (v := 4) C dX0_init_2 (by decide) ?_
  refine v_aload_n C dX0_init_3 rfl rfl ?_
  refine v_getR C dX0_init_4 2 (by decide) hci hb g_fl_X0_3 hf2 ?_
  refine v_aload_n C dX0_init_7 rfl rfl ?_
  refine v_getR C dX0_init_8 3 (by decide) hci hb g_fl_X0_9 hf3 ?_
  refine v_cv (r_I C (c_Range_init_X0 l D B K _ a0 _ _ _ _ _ _ _ _ _ h0) dX0_init_11 g_ml_X0_13 g_im_yX5_init g_in_X5 g_cd_yX5_init rfl (rn_le (by decide)) (by decide) rfl hdn_yX5_init (Nat.le_of_ble_eq_true rfl) ⟨Nat.le_of_ble_eq_true rfl, Nat.le_of_ble_eq_true rfl⟩) (fun f_11 hp_11 => ?_)
  subst hp_11
  refine v_aload_n C dX0_init_14 rfl rfl ?_
  refine v_aload_n C dX0_init_15 rfl rfl ?_
  refine v_putF C dX0_init_16 4 (va_up_self _ _ _) rfl in_X0 tyX0 tyX0_ok nmX0 (by decide) g_fl_X0_17 (fun _ h9 => h9) rfl hin rfl (tyX_at tyX0_ok (by decide)) rfl rfl (Nat.le_of_ble_eq_true rfl) ?_
  exact v_vret C hr hlk dX0_init_19 (Nat.le_refl _) (Nat.le_refl _) (by rw [bx_uu]; rfl)

set_option maxHeartbeats 4000000 in
set_option maxRecDepth 100000 in
theorem c_back_bad (l : Launch) (D : va_G) (B : Nat) (K : Nat → ClassId) (f : St) (q : Nat → Nat) (n na : Nat) (x : Int32) (h0 : f (q 0) = some (.inr (6, [.ref (q 1), .ref (q 2), .ref (q 3), .ref (q 4), .ref (q 5), .ref (q 6), .int (nI n), .int (nI na)]))) (hn40 : n ≤ 40) (hx : x < 0 ∨ nI n ≤ x) : Kc l D B K yX8_back cX8_back 3 ((some .int)) 50 1 7 [.ref (q 0), .int x] f (Qi_ D B (fun r f9 => r = -101 ∧ f9 = f)) := by
  refine v_met [(0, .ref (q 0)), (1, .int x)] (by decide) (Nat.le_of_ble_eq_true rfl) rfl ?_
  intro p e s m args below meth c C hr hlk hin
  refine v_aload_n C dX8_back_0 rfl rfl ?_
  refine v_iload_n C dX8_back_1 rfl rfl ?_
  refine v_cq (r_V C (c_rangeOf_bad l D B K _ q n na x h0 hx hn40) dX8_back_2 h0 rfl g_ml_X8_71 g_im_yX8_rangeOf g_se_X8_yX8_rangeOf_yX8_rangeOf g_in_X8 g_cd_yX8_rangeOf (rn_le (by decide)) (by decide) rfl rfl hdn_yX8_rangeOf (Nat.le_of_ble_eq_true rfl) ⟨Nat.le_of_ble_eq_true rfl, Nat.le_of_ble_eq_true rfl⟩) (fun r_2 f_2 hp_2 => ?_)
  obtain ⟨rfl, rfl⟩ := hp_2
  refine v_rn rfl ?_
  refine v_astore_nN C dX8_back_5 rfl (by decide) rfl ?_
  refine v_aload_nN C dX8_back_6 rfl rfl ?_
  refine v_ifnonnullN C dX8_back_7 ?_
  refine v_bipush (v := (-101)) C dX8_back_10 (by decide) ?_
  exact v_iret C hr hlk dX8_back_12 (Nat.le_of_ble_eq_true rfl) (Nat.le_of_ble_eq_true rfl) ⟨rfl, rfl⟩

set_option maxHeartbeats 4000000 in
set_option maxRecDepth 100000 in
theorem c_back_many (l : Launch) (D : va_G) (B : Nat) (K : Nat → ClassId) (f : St) (q : Nat → Nat) (n na : Nat) (g : Nat → Option Nat) (fi : St) (sg : Nat → Sg) (E : Nat → List Ent) (ra : Nat → Nat) (kd : Nat → Int32) (i : Nat) (h0 : f (q 0) = some (.inr (6, [.ref (q 1), .ref (q 2), .ref (q 3), .ref (q 4), .ref (q 5), .ref (q 6), .int (nI n), .int (nI na)]))) (h4 : f (q 4) = some (.inl (K 3, 40, .inr (.inr (.inr (.inr (g))))))) (hn40 : n ≤ 40) (hT : RT K sg E ra kd fi n) (hI : Imm fi f) (hg : ∀ i, i < n → g i = some (ra i)) (hi : i < n) (hz : 9223372036854775808 ≤ prodE sg (E i)) : Kc l D B K yX8_back cX8_back 3 ((some .int)) 50 1 7 [.ref (q 0), .int (nI i)] f (Qi_ D B (fun r f9 => r = -103 ∧ f9 = f)) := by
  refine v_met [(0, .ref (q 0)), (1, .int (nI i))] (by decide) (Nat.le_of_ble_eq_true rfl) rfl ?_
  intro p e s m args below meth c C hr hlk hin
  obtain ⟨cii, fsi, hcii, hcelli, hf0i, hf1i, hf2i, hf3i⟩ := RT_hdr (hT.2 i hi).1
  refine v_aload_n C dX8_back_0 rfl rfl ?_
  refine v_iload_n C dX8_back_1 rfl rfl ?_
  refine v_cq (r_V C (c_rangeOf_ok l D B K _ q n na g i (ra i) h0 h4 hi hn40 (hg i hi)) dX8_back_2 h0 rfl g_ml_X8_71 g_im_yX8_rangeOf g_se_X8_yX8_rangeOf_yX8_rangeOf g_in_X8 g_cd_yX8_rangeOf (rn_le (by decide)) (by decide) rfl rfl hdn_yX8_rangeOf (Nat.le_of_ble_eq_true rfl) ⟨Nat.le_of_ble_eq_true rfl, Nat.le_of_ble_eq_true rfl⟩) (fun r_2 f_2 hp_2 => ?_)
  obtain ⟨rfl, rfl⟩ := hp_2
  refine v_rq rfl ?_
  refine v_astore_n C dX8_back_5 rfl (by decide) rfl ?_
  refine v_aload_n C dX8_back_6 rfl rfl ?_
  refine v_ifnonnull (tgt := 13) C dX8_back_7 (by decide) ?_
  refine v_aload_n C dX8_back_13 rfl rfl ?_
  refine v_getR C dX8_back_14 3 (by decide) hcii (hI _ _ hcelli) g_fl_X8_75 hf3i ?_
  refine v_ldc2 C dX8_back_17 g_kl_X8_79 ?_
  refine v_lc_ne (tgt := 27) C dX8_back_20 dX8_back_21 (by decide) (fun c_20 => absurd (sat_ge hz) c_20) (fun c_20 => ?_)
  refine v_bipush (v := (-103)) C dX8_back_24 (by decide) ?_
  exact v_iret C hr hlk dX8_back_26 (Nat.le_of_ble_eq_true rfl) (Nat.le_of_ble_eq_true rfl) ⟨rfl, rfl⟩

set_option maxHeartbeats 4000000 in
set_option maxRecDepth 100000 in
theorem c_back_full (l : Launch) (D : va_G) (B : Nat) (K : Nat → ClassId) (f : St) (q : Nat → Nat) (n na : Nat) (g : Nat → Option Nat) (fi : St) (sg : Nat → Sg) (E : Nat → List Ent) (ra : Nat → Nat) (kd : Nat → Int32) (i : Nat) (h0 : f (q 0) = some (.inr (6, [.ref (q 1), .ref (q 2), .ref (q 3), .ref (q 4), .ref (q 5), .ref (q 6), .int (nI n), .int (nI na)]))) (h4 : f (q 4) = some (.inl (K 3, 40, .inr (.inr (.inr (.inr (g))))))) (hn40 : n ≤ 40) (hT : RT K sg E ra kd fi n) (hI : Imm fi f) (hg : ∀ i, i < n → g i = some (ra i)) (hi : i < n) (hz : prodE sg (E i) < 9223372036854775808) (hn : n = 40) : Kc l D B K yX8_back cX8_back 3 ((some .int)) 50 1 7 [.ref (q 0), .int (nI i)] f (Qi_ D B (fun r f9 => r = -104 ∧ f9 = f)) := by
  refine v_met [(0, .ref (q 0)), (1, .int (nI i))] (by decide) (Nat.le_of_ble_eq_true rfl) rfl ?_
  intro p e s m args below meth c C hr hlk hin
  obtain ⟨cii, fsi, hcii, hcelli, hf0i, hf1i, hf2i, hf3i⟩ := RT_hdr (hT.2 i hi).1
  refine v_aload_n C dX8_back_0 rfl rfl ?_
  refine v_iload_n C dX8_back_1 rfl rfl ?_
  refine v_cq (r_V C (c_rangeOf_ok l D B K _ q n na g i (ra i) h0 h4 hi hn40 (hg i hi)) dX8_back_2 h0 rfl g_ml_X8_71 g_im_yX8_rangeOf g_se_X8_yX8_rangeOf_yX8_rangeOf g_in_X8 g_cd_yX8_rangeOf (rn_le (by decide)) (by decide) rfl rfl hdn_yX8_rangeOf (Nat.le_of_ble_eq_true rfl) ⟨Nat.le_of_ble_eq_true rfl, Nat.le_of_ble_eq_true rfl⟩) (fun r_2 f_2 hp_2 => ?_)
  obtain ⟨rfl, rfl⟩ := hp_2
  refine v_rq rfl ?_
  refine v_astore_n C dX8_back_5 rfl (by decide) rfl ?_
  refine v_aload_n C dX8_back_6 rfl rfl ?_
  refine v_ifnonnull (tgt := 13) C dX8_back_7 (by decide) ?_
  refine v_aload_n C dX8_back_13 rfl rfl ?_
  refine v_getR C dX8_back_14 3 (by decide) hcii (hI _ _ hcelli) g_fl_X8_75 hf3i ?_
  refine v_ldc2 C dX8_back_17 g_kl_X8_79 ?_
  refine v_lc_ne (tgt := 27) C dX8_back_20 dX8_back_21 (by decide) (fun c_20 => ?_) (fun c_20 => absurd c_20 (fun h9 => by have h8 := (sat_m1 _).mp h9; omega))
  refine v_aload_n C dX8_back_27 rfl rfl ?_
  refine v_ci (r_V C (c_isFull_yes l D B K _ q n na h0 hn) dX8_back_28 h0 rfl g_ml_X8_56 g_im_yX8_isFull g_se_X8_yX8_isFull_yX8_isFull g_in_X8 g_cd_yX8_isFull (rn_le (by decide)) (by decide) rfl rfl hdn_yX8_isFull (Nat.le_of_ble_eq_true rfl) ⟨Nat.le_of_ble_eq_true rfl, Nat.le_of_ble_eq_true rfl⟩) (fun r_28 f_28 hp_28 => ?_)
  obtain ⟨rfl, rfl⟩ := hp_28
  refine v_if_eq (tgt := 37) C dX8_back_31 (by decide) (fun c_31 => absurd c_31 (by decide)) (fun _ => ?_)
  refine v_bipush (v := (-104)) C dX8_back_34 (by decide) ?_
  exact v_iret C hr hlk dX8_back_36 (Nat.le_of_ble_eq_true rfl) (Nat.le_of_ble_eq_true rfl) ⟨rfl, rfl⟩

abbrev bacE (n : Nat) (w : Int32) (sz : Int64) (b : Nat) : va_E := .inr (0, [.int (nI n), .int 4, .int w, .long sz, .ref b])
set_option maxHeartbeats 4000000 in
set_option maxRecDepth 100000 in
theorem c_back_new (l : Launch) (D : va_G) (B : Nat) (K : Nat → ClassId) (f : St) (q : Nat → Nat) (n na : Nat) (g : Nat → Option Nat) (fi : St) (sg : Nat → Sg) (E : Nat → List Ent) (ra : Nat → Nat) (kd : Nat → Int32) (i : Nat) (h0 : f (q 0) = some (.inr (6, [.ref (q 1), .ref (q 2), .ref (q 3), .ref (q 4), .ref (q 5), .ref (q 6), .int (nI n), .int (nI na)]))) (h4 : f (q 4) = some (.inl (K 3, 40, .inr (.inr (.inr (.inr (g))))))) (hn40 : n ≤ 40) (hT : RT K sg E ra kd fi n) (hI : Imm fi f) (hg : ∀ i, i < n → g i = some (ra i)) (hi : i < n) (hq : ∀ i j, i < 15 → j < 15 → q i = q j → i = j) (hqs : ∀ j, j < 15 → ∃ x, f (q j) = some x) (hz : prodE sg (E i) < 9223372036854775808) (hn : n < 40) : Kc l D B K yX8_back cX8_back 3 ((some .int)) 50 1 7 [.ref (q 0), .int (nI i)] f (Qi_ D B (fun r f9 => r = nI n ∧ ∃ b9, f b9 = none ∧ f9 = addF K q (va_up f b9 (some (bacE n (nI (E i).length) (sat (prodE sg (E i))) (ra i)))) n na g b9)) := by
  refine v_met [(0, .ref (q 0)), (1, .int (nI i))] (by decide) (Nat.le_of_ble_eq_true rfl) rfl ?_
  intro p e s m args below meth c C hr hlk hin
  obtain ⟨cii, fsi, hcii, hcelli, hf0i, hf1i, hf2i, hf3i⟩ := RT_hdr (hT.2 i hi).1
  refine v_aload_n C dX8_back_0 rfl rfl ?_
  refine v_iload_n C dX8_back_1 rfl rfl ?_
  refine v_cq (r_V C (c_rangeOf_ok l D B K _ q n na g i (ra i) h0 h4 hi hn40 (hg i hi)) dX8_back_2 h0 rfl g_ml_X8_71 g_im_yX8_rangeOf g_se_X8_yX8_rangeOf_yX8_rangeOf g_in_X8 g_cd_yX8_rangeOf (rn_le (by decide)) (by decide) rfl rfl hdn_yX8_rangeOf (Nat.le_of_ble_eq_true rfl) ⟨Nat.le_of_ble_eq_true rfl, Nat.le_of_ble_eq_true rfl⟩) (fun r_2 f_2 hp_2 => ?_)
  obtain ⟨rfl, rfl⟩ := hp_2
  refine v_rq rfl ?_
  refine v_astore_n C dX8_back_5 rfl (by decide) rfl ?_
  refine v_aload_n C dX8_back_6 rfl rfl ?_
  refine v_ifnonnull (tgt := 13) C dX8_back_7 (by decide) ?_
  refine v_aload_n C dX8_back_13 rfl rfl ?_
  refine v_getR C dX8_back_14 3 (by decide) hcii (hI _ _ hcelli) g_fl_X8_75 hf3i ?_
  refine v_ldc2 C dX8_back_17 g_kl_X8_79 ?_
  refine v_lc_ne (tgt := 27) C dX8_back_20 dX8_back_21 (by decide) (fun c_20 => ?_) (fun c_20 => absurd c_20 (fun h9 => by have h8 := (sat_m1 _).mp h9; omega))
  refine v_aload_n C dX8_back_27 rfl rfl ?_
  refine v_ci (r_V C (c_isFull_no l D B K _ q n na h0 hn) dX8_back_28 h0 rfl g_ml_X8_56 g_im_yX8_isFull g_se_X8_yX8_isFull_yX8_isFull g_in_X8 g_cd_yX8_isFull (rn_le (by decide)) (by decide) rfl rfl hdn_yX8_isFull (Nat.le_of_ble_eq_true rfl) ⟨Nat.le_of_ble_eq_true rfl, Nat.le_of_ble_eq_true rfl⟩) (fun r_28 f_28 hp_28 => ?_)
  obtain ⟨rfl, rfl⟩ := hp_28
  refine v_if_eq (tgt := 37) C dX8_back_31 (by decide) (fun _ => ?_) (fun c_31 => absurd c_31 (by decide))
  refine v_aload_n C dX8_back_37 rfl rfl ?_
  refine v_new (ci := 0) (fs := [.int 0, .int 0, .int 0, .long 0, .null]) C dX8_back_38 rfl in_X0 tyX0 tyX0_ok g_cl_X8_81 g_ins_X0 g_in_X0 (by decide) (Nat.le_of_ble_eq_true rfl) (Nat.le_of_ble_eq_true rfl) (fun b7 hb7 => ?_)
  refine v_dup C dX8_back_41 rfl ?_
  refine v_aload_n C dX8_back_42 rfl rfl ?_
  refine v_get C dX8_back_43 6 (upn hb7 h0) rfl in_X8 (by decide) g_fl_X8_40 (fun _ h9 => h9) rfl ?_
  refine v_aload_n C dX8_back_46 rfl rfl ?_
  refine v_cv (r_I C (c_Back_init l D B K _ b7 (ra i) _ _ _ _ _ _ _ _ _ _ (va_up_self _ _ _) hcii (upn hb7 (hI _ _ hcelli)) hf2i hf3i) dX8_back_47 g_ml_X8_83 g_im_yX0_init g_in_X0 g_cd_yX0_init rfl (rn_le (by decide)) (by decide) rfl hdn_yX0_init (Nat.le_of_ble_eq_true rfl) ⟨Nat.le_of_ble_eq_true rfl, Nat.le_of_ble_eq_true rfl⟩) (fun f_47 hp_47 => ?_)
  rw [bx_uu] at hp_47
  subst hp_47
  refine v_ci (r_V C (c_add_X0 l D B K _ q n na g b7 _ _ _ _ _ (upn hb7 h0) (upn hb7 h4) hn hq (ne_of_none hqs hb7) (va_up_self _ _ _)) dX8_back_50 (upn hb7 h0) rfl g_ml_X8_65 g_im_yX8_add g_se_X8_yX8_add_yX8_add g_in_X8 g_cd_yX8_add (rn_le (by decide)) (by decide) rfl rfl hdn_yX8_add (Nat.le_of_ble_eq_true rfl) ⟨Nat.le_of_ble_eq_true rfl, Nat.le_of_ble_eq_true rfl⟩) (fun r_50 f_50 hp_50 => ?_)
  obtain ⟨rfl, rfl⟩ := hp_50
  exact v_iret C hr hlk dX8_back_53 (Nat.le_of_ble_eq_true rfl) (Nat.le_of_ble_eq_true rfl) ⟨rfl, b7, hb7, rfl⟩

theorem be_prod {sg : Nat → Sg} {E : Nat → List Ent} {js : List Nat} {tt j : Nat} (hj : js[tt]? = some j) : tmC (sat (prodE sg ((js.take tt).flatMap E))) (sat (prodE sg (E j))) = sat (prodE sg ((js.take (tt + 1)).flatMap E)) := by
  rw [tm_sat, take_fm E hj, prod_app]
theorem be_len {E : Nat → List Ent} {js : List Nat} {tt j : Nat} (hj : js[tt]? = some j) : nI ((js.take tt).flatMap E).length + nI (E j).length = nI ((js.take (tt + 1)).flatMap E).length := by
  rw [nI_add, take_fm E hj, List.length_append]
set_option maxHeartbeats 4000000 in
set_option maxRecDepth 100000 in
theorem L_addBeside {p : Program} {l : Launch} {e : Env} {R : Room} {s : State} {m : MethodId} {args : Array Value} {below : List Frame} {meth : Method} {c : Code} {D : va_G} {B : Nat} {K : Nat → ClassId} {Q : State → Prop} (C : Cx p s m args c cX8_addBeside 10 yX8_addBeside.cls D B K) (hRN : RN R 1) (hRC : 0 ≤ R.cells ∧ 0 ≤ R.slots) (f : St) (q : Nat → Nat) (n : Nat) (k : Int32) (fi : St) (sg : Nat → Sg) (E : Nat → List Ent) (ra : Nat → Nat) (kd : Nat → Int32) (hT : RT K sg E ra kd fi n) (hI : Imm fi f) (js : List Nat) (pa : Nat) (gp : Nat → Option Nat) (hpa : f pa = some (.inl (K 3, js.length, .inr (.inr (.inr (.inr (gp))))))) (h3 : js.length ≤ 3) (hgp : ∀ t j, js[t]? = some j → gp t = some (ra j)) (hjs : ∀ j ∈ js, j < n) (kx : V p l e R s m args below meth c D B 10 Q 0 0 f (lof [(0, .ref (q 0)), (1, .int k), (2, .ref pa), (3, .int (nI ((js.take js.length).flatMap E).length)), (4, .long (sat (prodE sg ((js.take js.length).flatMap E)))), (6, .ref pa), (7, .int (nI js.length)), (8, .int (nI js.length))]) 56 []) : ∀ (n9 tt : Nat), tt ≤ js.length → js.length + 1 ≤ tt + n9 → V p l e R s m args below meth c D B 10 Q 0 0 f (lof [(0, .ref (q 0)), (1, .int k), (2, .ref pa), (3, .int (nI ((js.take tt).flatMap E).length)), (4, .long (sat (prodE sg ((js.take tt).flatMap E)))), (6, .ref pa), (7, .int (nI js.length)), (8, .int (nI tt))]) 16 [] := by
  intro n9
  induction n9 with
  | zero => intro tt h1 h2; omega
  | succ n9 ih =>
    intro tt htt hin
    by_cases hlt : tt < js.length
    · obtain ⟨j, hj⟩ : ∃ j, js[tt]? = some j := ⟨_, List.getElem?_eq_getElem hlt⟩
      have hjn := hjs j (List.mem_of_getElem? hj)
      obtain ⟨ci, fs, hci, hcell, hf0, hf1, hf2, hf3⟩ := RT_hdr (hT.2 j hjn).1
      refine v_iload C dX8_addBeside_16 rfl ?_
      refine v_iload C dX8_addBeside_18 rfl ?_
      refine v_icmp_ge (tgt := 56) C dX8_addBeside_20 (by decide) (fun c_20 => absurd c_20 (nI_ge hlt (by omega))) (fun c_20 => ?_)
      refine v_aload C dX8_addBeside_23 rfl ?_
      refine v_iload C dX8_addBeside_25 rfl ?_
      refine v_aldq C dX8_addBeside_27 hpa (vp_in_nI hlt (by omega)) ?_
      refine v_rq (by rw [nI_clamp (by omega)]; exact hgp tt j hj) ?_
      refine v_astore C dX8_addBeside_28 (by decide) rfl ?_
      refine v_iload_n C dX8_addBeside_30 rfl rfl ?_
      refine v_aload C dX8_addBeside_31 rfl ?_
      refine v_getR C dX8_addBeside_33 2 (by decide) hci (hI _ _ hcell) g_fl_X8_93 hf2 ?_
      refine v_iadd C dX8_addBeside_36 ?_
      refine v_ri (be_len hj) ?_
      refine v_istore_n C dX8_addBeside_37 rfl (by decide) rfl ?_
      refine v_lload C dX8_addBeside_38 rfl ?_
      refine v_aload C dX8_addBeside_40 rfl ?_
      refine v_getR C dX8_addBeside_42 3 (by decide) hci (hI _ _ hcell) g_fl_X8_75 hf3 ?_
      refine v_cl (r_S C (c_times l D B K _ _ _) dX8_addBeside_45 g_ml_X8_207 g_st_yX8_times g_in_X8 g_cd_yX8_times hRN (by decide) rfl hdn_yX8_times (Nat.le_of_ble_eq_true rfl) ⟨hRC.1, hRC.2⟩) (fun r_45 f_45 hp_45 => ?_)
      obtain ⟨rfl, rfl⟩ := hp_45
      refine v_rl (be_prod hj) ?_
      refine v_lstore C dX8_addBeside_48 (by decide) rfl ?_
      refine v_iinc (y := 1) C dX8_addBeside_50 rfl (by decide) (by decide) rfl ?_
      refine v_goto (tgt := 16) C dX8_addBeside_53 (by decide) ?_
      refine v_loc [(0, .ref (q 0)), (1, .int k), (2, .ref pa), (3, .int (nI ((js.take (tt + 1)).flatMap E).length)), (4, .long (sat (prodE sg ((js.take (tt + 1)).flatMap E)))), (6, .ref pa), (7, .int (nI js.length)), (8, .int (nI (tt + 1)))] (lsub_c rfl (lsub_c rfl (lsub_c rfl (lsub_c rfl (lsub_c rfl (lsub_c rfl (lsub_c rfl (lsub_c (by rw [nI_succ]; rfl) lsub_n)))))))) ?_
      exact ih (tt + 1) hlt (by omega)
    · refine v_iload C dX8_addBeside_16 rfl ?_
      refine v_iload C dX8_addBeside_18 rfl ?_
      refine v_icmp_ge (tgt := 56) C dX8_addBeside_20 (by decide) (fun c_20 => ?_) (fun c_20 => absurd (nI_le (by omega) (by omega)) c_20)
      rw [show tt = js.length by omega]
      exact kx

set_option maxHeartbeats 4000000 in
set_option maxRecDepth 100000 in
theorem c_addBeside_state (l : Launch) (D : va_G) (B : Nat) (K : Nat → ClassId) (f : St) (q : Nat → Nat) (n na : Nat) (k : Int32) (fi : St) (sg : Nat → Sg) (E : Nat → List Ent) (ra : Nat → Nat) (kd : Nat → Int32) (h0 : f (q 0) = some (.inr (6, [.ref (q 1), .ref (q 2), .ref (q 3), .ref (q 4), .ref (q 5), .ref (q 6), .int (nI n), .int (nI na)]))) (hT : RT K sg E ra kd fi n) (hI : Imm fi f) (js : List Nat) (pa : Nat) (gp : Nat → Option Nat) (hpa : f pa = some (.inl (K 3, js.length, .inr (.inr (.inr (.inr (gp))))))) (h3 : js.length ≤ 3) (hgp : ∀ t j, js[t]? = some j → gp t = some (ra j)) (hjs : ∀ j ∈ js, j < n) (hw9 : 8 < (js.flatMap E).length) (hw8 : (js.flatMap E).length ≤ 24) : Kc l D B K yX8_addBeside cX8_addBeside 10 ((some .int)) 4 1 5 [.ref (q 0), .int k, .ref pa] f (Qi_ D B (fun r f9 => r = -103 ∧ f9 = f)) := by
  refine v_met [(0, .ref (q 0)), (1, .int k), (2, .ref pa)] (by decide) (Nat.le_of_ble_eq_true rfl) rfl ?_
  intro p e s m args below meth c C hr hlk hin
  refine v_iconst (v := 0) C dX8_addBeside_0 (by decide) ?_
  refine v_istore_n C dX8_addBeside_1 rfl (by decide) rfl ?_
  refine v_lconst (v := 1) C dX8_addBeside_2 (by decide) ?_
  refine v_lstore C dX8_addBeside_3 (by decide) rfl ?_
  refine v_aload_n C dX8_addBeside_5 rfl rfl ?_
  refine v_astore C dX8_addBeside_6 (by decide) rfl ?_
  refine v_aload C dX8_addBeside_8 rfl ?_
  refine v_alen C dX8_addBeside_10 3 hpa rfl rfl ?_
  refine v_istore C dX8_addBeside_11 (by decide) rfl ?_
  refine v_iconst (v := 0) C dX8_addBeside_13 (by decide) ?_
  refine v_istore C dX8_addBeside_14 (by decide) rfl ?_
  refine v_loc [(0, .ref (q 0)), (1, .int k), (2, .ref pa), (3, .int (nI ((js.take 0).flatMap E).length)), (4, .long (sat (prodE sg ((js.take 0).flatMap E)))), (6, .ref pa), (7, .int (nI js.length)), (8, .int (nI 0))] (lsub_c rfl (lsub_c rfl (lsub_c rfl (lsub_c rfl (lsub_c rfl (lsub_c rfl (lsub_c rfl (lsub_c rfl lsub_n)))))))) ?_
  refine L_addBeside (l := l) (e := e) (below := below) (R := RM 4 1 5) C (rn_le (by decide)) ⟨Nat.zero_le _, Nat.zero_le _⟩ f q n k fi sg E ra kd hT hI js pa gp hpa h3 hgp hjs ?_ (js.length + 1) 0 (Nat.zero_le _) (by omega)
  rw [List.take_length]
  refine v_iload_n C dX8_addBeside_56 rfl rfl ?_
  refine v_bipush (v := 8) C dX8_addBeside_57 (by decide) ?_
  refine v_icmp_le (tgt := 65) C dX8_addBeside_59 (by decide) (fun c_59 => absurd c_59 (nI_ge (a := 8) hw9 (by omega))) (fun c_59 => ?_)
  refine v_bipush (v := (-103)) C dX8_addBeside_62 (by decide) ?_
  exact v_iret C hr hlk dX8_addBeside_64 (Nat.le_of_ble_eq_true rfl) (Nat.le_of_ble_eq_true rfl) ⟨rfl, rfl⟩

set_option maxHeartbeats 4000000 in
set_option maxRecDepth 100000 in
theorem c_addBeside_full (l : Launch) (D : va_G) (B : Nat) (K : Nat → ClassId) (f : St) (q : Nat → Nat) (n na : Nat) (k : Int32) (fi : St) (sg : Nat → Sg) (E : Nat → List Ent) (ra : Nat → Nat) (kd : Nat → Int32) (h0 : f (q 0) = some (.inr (6, [.ref (q 1), .ref (q 2), .ref (q 3), .ref (q 4), .ref (q 5), .ref (q 6), .int (nI n), .int (nI na)]))) (hT : RT K sg E ra kd fi n) (hI : Imm fi f) (js : List Nat) (pa : Nat) (gp : Nat → Option Nat) (hpa : f pa = some (.inl (K 3, js.length, .inr (.inr (.inr (.inr (gp))))))) (h3 : js.length ≤ 3) (hgp : ∀ t j, js[t]? = some j → gp t = some (ra j)) (hjs : ∀ j ∈ js, j < n) (hw9 : (js.flatMap E).length ≤ 8) (hn : n = 40) : Kc l D B K yX8_addBeside cX8_addBeside 10 ((some .int)) 4 1 5 [.ref (q 0), .int k, .ref pa] f (Qi_ D B (fun r f9 => r = -104 ∧ f9 = f)) := by
  refine v_met [(0, .ref (q 0)), (1, .int k), (2, .ref pa)] (by decide) (Nat.le_of_ble_eq_true rfl) rfl ?_
  intro p e s m args below meth c C hr hlk hin
  refine v_iconst (v := 0) C dX8_addBeside_0 (by decide) ?_
  refine v_istore_n C dX8_addBeside_1 rfl (by decide) rfl ?_
  refine v_lconst (v := 1) C dX8_addBeside_2 (by decide) ?_
  refine v_lstore C dX8_addBeside_3 (by decide) rfl ?_
  refine v_aload_n C dX8_addBeside_5 rfl rfl ?_
  refine v_astore C dX8_addBeside_6 (by decide) rfl ?_
  refine v_aload C dX8_addBeside_8 rfl ?_
  refine v_alen C dX8_addBeside_10 3 hpa rfl rfl ?_
  refine v_istore C dX8_addBeside_11 (by decide) rfl ?_
  refine v_iconst (v := 0) C dX8_addBeside_13 (by decide) ?_
  refine v_istore C dX8_addBeside_14 (by decide) rfl ?_
  refine v_loc [(0, .ref (q 0)), (1, .int k), (2, .ref pa), (3, .int (nI ((js.take 0).flatMap E).length)), (4, .long (sat (prodE sg ((js.take 0).flatMap E)))), (6, .ref pa), (7, .int (nI js.length)), (8, .int (nI 0))] (lsub_c rfl (lsub_c rfl (lsub_c rfl (lsub_c rfl (lsub_c rfl (lsub_c rfl (lsub_c rfl (lsub_c rfl lsub_n)))))))) ?_
  refine L_addBeside (l := l) (e := e) (below := below) (R := RM 4 1 5) C (rn_le (by decide)) ⟨Nat.zero_le _, Nat.zero_le _⟩ f q n k fi sg E ra kd hT hI js pa gp hpa h3 hgp hjs ?_ (js.length + 1) 0 (Nat.zero_le _) (by omega)
  rw [List.take_length]
  refine v_iload_n C dX8_addBeside_56 rfl rfl ?_
  refine v_bipush (v := 8) C dX8_addBeside_57 (by decide) ?_
  refine v_icmp_le (tgt := 65) C dX8_addBeside_59 (by decide) (fun c_59 => ?_) (fun c_59 => absurd (nI_le (b := 8) hw9 (by omega)) c_59)
  refine v_aload_n C dX8_addBeside_65 rfl rfl ?_
  refine v_ci (r_V C (c_isFull_yes l D B K _ q n na h0 hn) dX8_addBeside_66 h0 rfl g_ml_X8_56 g_im_yX8_isFull g_se_X8_yX8_isFull_yX8_isFull g_in_X8 g_cd_yX8_isFull (rn_le (by decide)) (by decide) rfl rfl hdn_yX8_isFull (Nat.le_of_ble_eq_true rfl) ⟨Nat.le_of_ble_eq_true rfl, Nat.le_of_ble_eq_true rfl⟩) (fun r_66 f_66 hp_66 => ?_)
  obtain ⟨rfl, rfl⟩ := hp_66
  refine v_if_eq (tgt := 75) C dX8_addBeside_69 (by decide) (fun c_69 => absurd c_69 (by decide)) (fun _ => ?_)
  refine v_bipush (v := (-104)) C dX8_addBeside_72 (by decide) ?_
  exact v_iret C hr hlk dX8_addBeside_74 (Nat.le_of_ble_eq_true rfl) (Nat.le_of_ble_eq_true rfl) ⟨rfl, rfl⟩

abbrev besE (n : Nat) (k w : Int32) (sz : Int64) (pa : Nat) : va_E := .inr (1, [.int (nI n), .int k, .int w, .long sz, .ref pa])
set_option maxHeartbeats 4000000 in
set_option maxRecDepth 100000 in
theorem c_addBeside_new (l : Launch) (D : va_G) (B : Nat) (K : Nat → ClassId) (f : St) (q : Nat → Nat) (n na : Nat) (k : Int32) (fi : St) (sg : Nat → Sg) (E : Nat → List Ent) (ra : Nat → Nat) (kd : Nat → Int32) (h0 : f (q 0) = some (.inr (6, [.ref (q 1), .ref (q 2), .ref (q 3), .ref (q 4), .ref (q 5), .ref (q 6), .int (nI n), .int (nI na)]))) (hT : RT K sg E ra kd fi n) (hI : Imm fi f) (js : List Nat) (pa : Nat) (gp : Nat → Option Nat) (hpa : f pa = some (.inl (K 3, js.length, .inr (.inr (.inr (.inr (gp))))))) (h3 : js.length ≤ 3) (hgp : ∀ t j, js[t]? = some j → gp t = some (ra j)) (hjs : ∀ j ∈ js, j < n) (g : Nat → Option Nat) (h4 : f (q 4) = some (.inl (K 3, 40, .inr (.inr (.inr (.inr (g))))))) (hq : ∀ i j, i < 15 → j < 15 → q i = q j → i = j) (hqs : ∀ j, j < 15 → ∃ x, f (q j) = some x) (hw9 : (js.flatMap E).length ≤ 8) (hn : n < 40) : Kc l D B K yX8_addBeside cX8_addBeside 10 ((some .int)) 4 1 5 [.ref (q 0), .int k, .ref pa] f (Qi_ D B (fun r f9 => r = nI n ∧ ∃ b9, f b9 = none ∧ f9 = addF K q (va_up f b9 (some (besE n k (nI (js.flatMap E).length) (sat (prodE sg (js.flatMap E))) pa))) n na g b9)) := by
  refine v_met [(0, .ref (q 0)), (1, .int k), (2, .ref pa)] (by decide) (Nat.le_of_ble_eq_true rfl) rfl ?_
  intro p e s m args below meth c C hr hlk hin
  refine v_iconst (v := 0) C dX8_addBeside_0 (by decide) ?_
  refine v_istore_n C dX8_addBeside_1 rfl (by decide) rfl ?_
  refine v_lconst (v := 1) C dX8_addBeside_2 (by decide) ?_
  refine v_lstore C dX8_addBeside_3 (by decide) rfl ?_
  refine v_aload_n C dX8_addBeside_5 rfl rfl ?_
  refine v_astore C dX8_addBeside_6 (by decide) rfl ?_
  refine v_aload C dX8_addBeside_8 rfl ?_
  refine v_alen C dX8_addBeside_10 3 hpa rfl rfl ?_
  refine v_istore C dX8_addBeside_11 (by decide) rfl ?_
  refine v_iconst (v := 0) C dX8_addBeside_13 (by decide) ?_
  refine v_istore C dX8_addBeside_14 (by decide) rfl ?_
  refine v_loc [(0, .ref (q 0)), (1, .int k), (2, .ref pa), (3, .int (nI ((js.take 0).flatMap E).length)), (4, .long (sat (prodE sg ((js.take 0).flatMap E)))), (6, .ref pa), (7, .int (nI js.length)), (8, .int (nI 0))] (lsub_c rfl (lsub_c rfl (lsub_c rfl (lsub_c rfl (lsub_c rfl (lsub_c rfl (lsub_c rfl (lsub_c rfl lsub_n)))))))) ?_
  refine L_addBeside (l := l) (e := e) (below := below) (R := RM 4 1 5) C (rn_le (by decide)) ⟨Nat.zero_le _, Nat.zero_le _⟩ f q n k fi sg E ra kd hT hI js pa gp hpa h3 hgp hjs ?_ (js.length + 1) 0 (Nat.zero_le _) (by omega)
  rw [List.take_length]
  refine v_iload_n C dX8_addBeside_56 rfl rfl ?_
  refine v_bipush (v := 8) C dX8_addBeside_57 (by decide) ?_
  refine v_icmp_le (tgt := 65) C dX8_addBeside_59 (by decide) (fun c_59 => ?_) (fun c_59 => absurd (nI_le (b := 8) hw9 (by omega)) c_59)
  refine v_aload_n C dX8_addBeside_65 rfl rfl ?_
  refine v_ci (r_V C (c_isFull_no l D B K _ q n na h0 hn) dX8_addBeside_66 h0 rfl g_ml_X8_56 g_im_yX8_isFull g_se_X8_yX8_isFull_yX8_isFull g_in_X8 g_cd_yX8_isFull (rn_le (by decide)) (by decide) rfl rfl hdn_yX8_isFull (Nat.le_of_ble_eq_true rfl) ⟨Nat.le_of_ble_eq_true rfl, Nat.le_of_ble_eq_true rfl⟩) (fun r_66 f_66 hp_66 => ?_)
  obtain ⟨rfl, rfl⟩ := hp_66
  refine v_if_eq (tgt := 75) C dX8_addBeside_69 (by decide) (fun _ => ?_) (fun c_69 => absurd c_69 (by decide))
  refine v_aload_n C dX8_addBeside_75 rfl rfl ?_
  refine v_new (ci := 1) (fs := [.int 0, .int 0, .int 0, .long 0, .null]) C dX8_addBeside_76 rfl in_X1 tyX1 tyX1_ok g_cl_X8_209 g_ins_X1 g_in_X1 (by decide) (Nat.le_of_ble_eq_true rfl) (Nat.le_of_ble_eq_true rfl) (fun b7 hb7 => ?_)
  refine v_dup C dX8_addBeside_79 rfl ?_
  refine v_aload_n C dX8_addBeside_80 rfl rfl ?_
  refine v_get C dX8_addBeside_81 6 (upn hb7 h0) rfl in_X8 (by decide) g_fl_X8_40 (fun _ h9 => h9) rfl ?_
  refine v_iload_n C dX8_addBeside_84 rfl rfl ?_
  refine v_iload_n C dX8_addBeside_85 rfl rfl ?_
  refine v_lload C dX8_addBeside_86 rfl ?_
  refine v_aload_n C dX8_addBeside_88 rfl rfl ?_
  refine v_cv (r_I C (c_Beside_init l D B K _ b7 pa _ _ _ _ _ _ _ _ _ (va_up_self _ _ _)) dX8_addBeside_89 g_ml_X8_211 g_im_yX1_init g_in_X1 g_cd_yX1_init rfl (rn_le (by decide)) (by decide) rfl hdn_yX1_init (Nat.le_of_ble_eq_true rfl) ⟨Nat.le_of_ble_eq_true rfl, Nat.le_of_ble_eq_true rfl⟩) (fun f_89 hp_89 => ?_)
  rw [bx_uu] at hp_89
  subst hp_89
  refine v_ci (r_V C (c_add_X1 l D B K _ q n na g b7 _ _ _ _ _ (upn hb7 h0) (upn hb7 h4) hn hq (ne_of_none hqs hb7) (va_up_self _ _ _)) dX8_addBeside_92 (upn hb7 h0) rfl g_ml_X8_65 g_im_yX8_add g_se_X8_yX8_add_yX8_add g_in_X8 g_cd_yX8_add (rn_le (by decide)) (by decide) rfl rfl hdn_yX8_add (Nat.le_of_ble_eq_true rfl) ⟨Nat.le_of_ble_eq_true rfl, Nat.le_of_ble_eq_true rfl⟩) (fun r_92 f_92 hp_92 => ?_)
  obtain ⟨rfl, rfl⟩ := hp_92
  exact v_iret C hr hlk dX8_addBeside_95 (Nat.le_of_ble_eq_true rfl) (Nat.le_of_ble_eq_true rfl) ⟨rfl, b7, hb7, rfl⟩

