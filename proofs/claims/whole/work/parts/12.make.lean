/-! writes of small objects, constructors -/
set_option maxHeartbeats 4000000 in
set_option maxRecDepth 100000 in
theorem c_take (l : Launch) (D : va_G) (B : Nat) (K : Nat → ClassId) (f : St) (a0 ha : Nat) (g : Nat → Int64) (k : Int32) (v : Int64) (h0 : f a0 = some (.inr (2, [.ref ha]))) (h1 : f ha = some (.inl (K 1, 8, .inr (.inl g)))) : Kc l D B K yX2_take cX2_take 4 none 0 0 0 [.ref a0, .int k, .long v] f (Qv_ D B (fun f9 => f9 = if k < 0 then f else if 8 ≤ k then f else va_up f ha (some (.inl (K 1, 8, .inr (.inl (vp_updL g k.toNatClampNeg v))))))) := by
  refine v_met [(0, .ref a0), (1, .int k), (2, .long v)] (by decide) (Nat.le_of_ble_eq_true rfl) rfl ?_
  intro p e s m args below meth c C hr hlk hin
  refine v_iload_n C dX2_take_0 rfl rfl ?_
  refine v_if_lt (tgt := 17) C dX2_take_1 (by decide) (fun c_1 => ?_) (fun c_1 => ?_)
  · exact v_vret C hr hlk dX2_take_17 (Nat.le_refl _) (Nat.le_refl _) (by rw [if_pos c_1])
  · refine v_iload_n C dX2_take_4 rfl rfl ?_
    refine v_bipush (v := 8) C dX2_take_5 (by decide) ?_
    refine v_icmp_ge (tgt := 17) C dX2_take_7 (by decide) (fun c_7 => ?_) (fun c_7 => ?_)
    · exact v_vret C hr hlk dX2_take_17 (Nat.le_refl _) (Nat.le_refl _) (by rw [if_neg c_1, if_pos c_7])
    · refine v_aload_n C dX2_take_10 rfl rfl ?_
      refine v_get C dX2_take_11 0 h0 rfl in_X2 (by decide) g_fl_X2_9 (fun _ h9 => h9) rfl ?_
      refine v_iload_n C dX2_take_14 rfl rfl ?_
      refine v_lload_n C dX2_take_15 rfl rfl ?_
      refine v_last C dX2_take_16 h1 (vp_in_c rfl c_1 c_7) ?_
      exact v_vret C hr hlk dX2_take_17 (Nat.le_refl _) (Nat.le_refl _) (by rw [if_neg c_1, if_neg c_7])

set_option maxHeartbeats 4000000 in
set_option maxRecDepth 100000 in
theorem c_note (l : Launch) (D : va_G) (B : Nat) (K : Nat → ClassId) (f : St) (a0 : Nat) (t x y z a b c9 : Int32) (h0 : f a0 = some (.inr (3, [.int t, .int x, .int y, .int z]))) : Kc l D B K yX3_note cX3_note 4 none 0 0 0 [.ref a0, .int a, .int b, .int c9] f (Qv_ D B (fun f9 => f9 = va_up f a0 (some (.inr (3, [.int (t + 1), .int a, .int b, .int c9]))))) := by
  refine v_met [(0, .ref a0), (1, .int a), (2, .int b), (3, .int c9)] (by decide) (Nat.le_of_ble_eq_true rfl) rfl ?_
  intro p e s m args below meth c C hr hlk hin
  refine v_aload_n C dX3_note_0 rfl rfl ?_
  refine v_dup C dX3_note_1 rfl ?_
  refine v_get C dX3_note_2 0 h0 rfl in_X3 (by decide) g_fl_X3_7 (fun _ h9 => h9) rfl ?_
  refine v_iconst (v := 1) C dX3_note_5 (by decide) ?_
  refine v_iadd C dX3_note_6 ?_
  refine v_put C dX3_note_7 0 h0 rfl in_X3 tyX3 tyX3_ok nmX3 (by decide) g_fl_X3_7 (fun _ h9 => h9) rfl (tyX_at tyX3_ok (by decide)) rfl rfl (Nat.le_of_ble_eq_true rfl) ?_
  refine v_aload_n C dX3_note_10 rfl rfl ?_
  refine v_iload_n C dX3_note_11 rfl rfl ?_
  refine v_put C dX3_note_12 1 (va_up_self _ _ _) rfl in_X3 tyX3 tyX3_ok nmX3 (by decide) g_fl_X3_13 (fun _ h9 => h9) rfl (tyX_at tyX3_ok (by decide)) rfl rfl (Nat.le_of_ble_eq_true rfl) ?_
  refine v_aload_n C dX3_note_15 rfl rfl ?_
  refine v_iload_n C dX3_note_16 rfl rfl ?_
  refine v_put C dX3_note_17 2 (va_up_self _ _ _) rfl in_X3 tyX3 tyX3_ok nmX3 (by decide) g_fl_X3_16 (fun _ h9 => h9) rfl (tyX_at tyX3_ok (by decide)) rfl rfl (Nat.le_of_ble_eq_true rfl) ?_
  refine v_aload_n C dX3_note_20 rfl rfl ?_
  refine v_iload_n C dX3_note_21 rfl rfl ?_
  refine v_put C dX3_note_22 3 (va_up_self _ _ _) rfl in_X3 tyX3 tyX3_ok nmX3 (by decide) g_fl_X3_19 (fun _ h9 => h9) rfl (tyX_at tyX3_ok (by decide)) rfl rfl (Nat.le_of_ble_eq_true rfl) ?_
  exact v_vret C hr hlk dX3_note_25 (Nat.le_refl _) (Nat.le_refl _) (by rw [bx_uu, bx_uu, bx_uu]; rfl)

set_option maxHeartbeats 4000000 in
set_option maxRecDepth 100000 in
theorem c_forget (l : Launch) (D : va_G) (B : Nat) (K : Nat → ClassId) (f : St) (a0 : Nat) (t x y z : Int32) (h0 : f a0 = some (.inr (3, [.int t, .int x, .int y, .int z]))) : Kc l D B K yX3_forget cX3_forget 1 none 0 0 0 [.ref a0] f (Qv_ D B (fun f9 => f9 = va_up f a0 (some (.inr (3, [.int 0, .int x, .int y, .int z]))))) := by
  refine v_met [(0, .ref a0)] (by decide) (Nat.le_of_ble_eq_true rfl) rfl ?_
  intro p e s m args below meth c C hr hlk hin
  refine v_aload_n C dX3_forget_0 rfl rfl ?_
  refine v_iconst (v := 0) C dX3_forget_1 (by decide) ?_
  refine v_put C dX3_forget_2 0 h0 rfl in_X3 tyX3 tyX3_ok nmX3 (by decide) g_fl_X3_7 (fun _ h9 => h9) rfl (tyX_at tyX3_ok (by decide)) rfl rfl (Nat.le_of_ble_eq_true rfl) ?_
  exact v_vret C hr hlk dX3_forget_5 (Nat.le_refl _) (Nat.le_refl _) rfl

set_option maxHeartbeats 4000000 in
set_option maxRecDepth 100000 in
theorem c_Miss_init (l : Launch) (D : va_G) (B : Nat) (K : Nat → ClassId) (f : St) (a0 : Nat) : Kc l D B K yX3_init cX3_init 1 none 1 0 0 [.ref a0] f (Qv_ D B (fun f9 => f9 = f)) := by
  refine v_met [(0, .ref a0)] (by decide) (Nat.le_of_ble_eq_true rfl) rfl ?_
  intro p e s m args below meth c C hr hlk hin
  refine v_aload_n C dX3_init_0 rfl rfl ?_
  refine v_obj C dX3_init_1 g_ml_X3_1 g_obj1 g_obj2 (rn_le (by decide)) (Nat.le_of_ble_eq_true rfl) ?_
  exact v_vret C hr hlk dX3_init_4 (Nat.le_refl _) (Nat.le_refl _) rfl

set_option maxHeartbeats 4000000 in
set_option maxRecDepth 100000 in
theorem c_Range_init_X0 (l : Launch) (D : va_G) (B : Nat) (K : Nat → ClassId) (f : St) (a0 : Nat) (num kd w : Int32) (sz : Int64) (x0 x1 x2 x3 x4 : Value) (h0 : f a0 = some (.inr (0, [x0, x1, x2, x3, x4]))) : Kc l D B K yX5_init cX5_init 6 none 1 0 0 [.ref a0, .int num, .int kd, .int w, .long sz] f (Qv_ D B (fun f9 => f9 = va_up f a0 (some (.inr (0, [.int num, .int kd, .int w, .long sz, x4]))))) := by
  refine v_met [(0, .ref a0), (1, .int num), (2, .int kd), (3, .int w), (4, .long sz)] (by decide) (Nat.le_of_ble_eq_true rfl) rfl ?_
  intro p e s m args below meth c C hr hlk hin
  refine v_aload_n C dX5_init_0 rfl rfl ?_
  refine v_obj C dX5_init_1 g_ml_X5_3 g_obj1 g_obj2 (rn_le (by decide)) (Nat.le_of_ble_eq_true rfl) ?_
  refine v_aload_n C dX5_init_4 rfl rfl ?_
  refine v_iload_n C dX5_init_5 rfl rfl ?_
  refine v_putF C dX5_init_6 0 h0 rfl in_X0 tyX0 tyX0_ok nmX0 (by decide) g_fl_X5_9 (fun _ h9 => h9) rfl hin rfl (tyX_at tyX0_ok (by decide)) rfl rfl (Nat.le_of_ble_eq_true rfl) ?_
  refine v_aload_n C dX5_init_9 rfl rfl ?_
  refine v_iload_n C dX5_init_10 rfl rfl ?_
  refine v_putF C dX5_init_11 1 (va_up_self _ _ _) rfl in_X0 tyX0 tyX0_ok nmX0 (by decide) g_fl_X5_15 (fun _ h9 => h9) rfl hin rfl (tyX_at tyX0_ok (by decide)) rfl rfl (Nat.le_of_ble_eq_true rfl) ?_
  refine v_aload_n C dX5_init_14 rfl rfl ?_
  refine v_iload_n C dX5_init_15 rfl rfl ?_
  refine v_putF C dX5_init_16 2 (va_up_self _ _ _) rfl in_X0 tyX0 tyX0_ok nmX0 (by decide) g_fl_X5_18 (fun _ h9 => h9) rfl hin rfl (tyX_at tyX0_ok (by decide)) rfl rfl (Nat.le_of_ble_eq_true rfl) ?_
  refine v_aload_n C dX5_init_19 rfl rfl ?_
  refine v_lload C dX5_init_20 rfl ?_
  refine v_putF C dX5_init_22 3 (va_up_self _ _ _) rfl in_X0 tyX0 tyX0_ok nmX0 (by decide) g_fl_X5_21 (fun _ h9 => h9) rfl hin rfl (tyX_at tyX0_ok (by decide)) rfl rfl (Nat.le_of_ble_eq_true rfl) ?_
  exact v_vret C hr hlk dX5_init_25 (Nat.le_refl _) (Nat.le_refl _) (by rw [bx_uu, bx_uu, bx_uu]; rfl)

set_option maxHeartbeats 4000000 in
set_option maxRecDepth 100000 in
theorem c_Range_init_X1 (l : Launch) (D : va_G) (B : Nat) (K : Nat → ClassId) (f : St) (a0 : Nat) (num kd w : Int32) (sz : Int64) (x0 x1 x2 x3 x4 : Value) (h0 : f a0 = some (.inr (1, [x0, x1, x2, x3, x4]))) : Kc l D B K yX5_init cX5_init 6 none 1 0 0 [.ref a0, .int num, .int kd, .int w, .long sz] f (Qv_ D B (fun f9 => f9 = va_up f a0 (some (.inr (1, [.int num, .int kd, .int w, .long sz, x4]))))) := by
  refine v_met [(0, .ref a0), (1, .int num), (2, .int kd), (3, .int w), (4, .long sz)] (by decide) (Nat.le_of_ble_eq_true rfl) rfl ?_
  intro p e s m args below meth c C hr hlk hin
  refine v_aload_n C dX5_init_0 rfl rfl ?_
  refine v_obj C dX5_init_1 g_ml_X5_3 g_obj1 g_obj2 (rn_le (by decide)) (Nat.le_of_ble_eq_true rfl) ?_
  refine v_aload_n C dX5_init_4 rfl rfl ?_
  refine v_iload_n C dX5_init_5 rfl rfl ?_
  refine v_putF C dX5_init_6 0 h0 rfl in_X1 tyX1 tyX1_ok nmX1 (by decide) g_fl_X5_9 (fun _ h9 => h9) rfl hin rfl (tyX_at tyX1_ok (by decide)) rfl rfl (Nat.le_of_ble_eq_true rfl) ?_
  refine v_aload_n C dX5_init_9 rfl rfl ?_
  refine v_iload_n C dX5_init_10 rfl rfl ?_
  refine v_putF C dX5_init_11 1 (va_up_self _ _ _) rfl in_X1 tyX1 tyX1_ok nmX1 (by decide) g_fl_X5_15 (fun _ h9 => h9) rfl hin rfl (tyX_at tyX1_ok (by decide)) rfl rfl (Nat.le_of_ble_eq_true rfl) ?_
  refine v_aload_n C dX5_init_14 rfl rfl ?_
  refine v_iload_n C dX5_init_15 rfl rfl ?_
  refine v_putF C dX5_init_16 2 (va_up_self _ _ _) rfl in_X1 tyX1 tyX1_ok nmX1 (by decide) g_fl_X5_18 (fun _ h9 => h9) rfl hin rfl (tyX_at tyX1_ok (by decide)) rfl rfl (Nat.le_of_ble_eq_true rfl) ?_
  refine v_aload_n C dX5_init_19 rfl rfl ?_
  refine v_lload C dX5_init_20 rfl ?_
  refine v_putF C dX5_init_22 3 (va_up_self _ _ _) rfl in_X1 tyX1 tyX1_ok nmX1 (by decide) g_fl_X5_21 (fun _ h9 => h9) rfl hin rfl (tyX_at tyX1_ok (by decide)) rfl rfl (Nat.le_of_ble_eq_true rfl) ?_
  exact v_vret C hr hlk dX5_init_25 (Nat.le_refl _) (Nat.le_refl _) (by rw [bx_uu, bx_uu, bx_uu]; rfl)

set_option maxHeartbeats 4000000 in
set_option maxRecDepth 100000 in
theorem c_Range_init_X4 (l : Launch) (D : va_G) (B : Nat) (K : Nat → ClassId) (f : St) (a0 : Nat) (num kd w : Int32) (sz : Int64) (x0 x1 x2 x3 x4 x5 : Value) (h0 : f a0 = some (.inr (4, [x0, x1, x2, x3, x4, x5]))) : Kc l D B K yX5_init cX5_init 6 none 1 0 0 [.ref a0, .int num, .int kd, .int w, .long sz] f (Qv_ D B (fun f9 => f9 = va_up f a0 (some (.inr (4, [.int num, .int kd, .int w, .long sz, x4, x5]))))) := by
  refine v_met [(0, .ref a0), (1, .int num), (2, .int kd), (3, .int w), (4, .long sz)] (by decide) (Nat.le_of_ble_eq_true rfl) rfl ?_
  intro p e s m args below meth c C hr hlk hin
  refine v_aload_n C dX5_init_0 rfl rfl ?_
  refine v_obj C dX5_init_1 g_ml_X5_3 g_obj1 g_obj2 (rn_le (by decide)) (Nat.le_of_ble_eq_true rfl) ?_
  refine v_aload_n C dX5_init_4 rfl rfl ?_
  refine v_iload_n C dX5_init_5 rfl rfl ?_
  refine v_putF C dX5_init_6 0 h0 rfl in_X4 tyX4 tyX4_ok nmX4 (by decide) g_fl_X5_9 (fun _ h9 => h9) rfl hin rfl (tyX_at tyX4_ok (by decide)) rfl rfl (Nat.le_of_ble_eq_true rfl) ?_
  refine v_aload_n C dX5_init_9 rfl rfl ?_
  refine v_iload_n C dX5_init_10 rfl rfl ?_
  refine v_putF C dX5_init_11 1 (va_up_self _ _ _) rfl in_X4 tyX4 tyX4_ok nmX4 (by decide) g_fl_X5_15 (fun _ h9 => h9) rfl hin rfl (tyX_at tyX4_ok (by decide)) rfl rfl (Nat.le_of_ble_eq_true rfl) ?_
  refine v_aload_n C dX5_init_14 rfl rfl ?_
  refine v_iload_n C dX5_init_15 rfl rfl ?_
  refine v_putF C dX5_init_16 2 (va_up_self _ _ _) rfl in_X4 tyX4 tyX4_ok nmX4 (by decide) g_fl_X5_18 (fun _ h9 => h9) rfl hin rfl (tyX_at tyX4_ok (by decide)) rfl rfl (Nat.le_of_ble_eq_true rfl) ?_
  refine v_aload_n C dX5_init_19 rfl rfl ?_
  refine v_lload C dX5_init_20 rfl ?_
  refine v_putF C dX5_init_22 3 (va_up_self _ _ _) rfl in_X4 tyX4 tyX4_ok nmX4 (by decide) g_fl_X5_21 (fun _ h9 => h9) rfl hin rfl (tyX_at tyX4_ok (by decide)) rfl rfl (Nat.le_of_ble_eq_true rfl) ?_
  exact v_vret C hr hlk dX5_init_25 (Nat.le_refl _) (Nat.le_refl _) (by rw [bx_uu, bx_uu, bx_uu]; rfl)

set_option maxHeartbeats 4000000 in
set_option maxRecDepth 100000 in
theorem c_Range_init_X6 (l : Launch) (D : va_G) (B : Nat) (K : Nat → ClassId) (f : St) (a0 : Nat) (num kd w : Int32) (sz : Int64) (x0 x1 x2 x3 x4 x5 x6 : Value) (h0 : f a0 = some (.inr (5, [x0, x1, x2, x3, x4, x5, x6]))) : Kc l D B K yX5_init cX5_init 6 none 1 0 0 [.ref a0, .int num, .int kd, .int w, .long sz] f (Qv_ D B (fun f9 => f9 = va_up f a0 (some (.inr (5, [.int num, .int kd, .int w, .long sz, x4, x5, x6]))))) := by
  refine v_met [(0, .ref a0), (1, .int num), (2, .int kd), (3, .int w), (4, .long sz)] (by decide) (Nat.le_of_ble_eq_true rfl) rfl ?_
  intro p e s m args below meth c C hr hlk hin
  refine v_aload_n C dX5_init_0 rfl rfl ?_
  refine v_obj C dX5_init_1 g_ml_X5_3 g_obj1 g_obj2 (rn_le (by decide)) (Nat.le_of_ble_eq_true rfl) ?_
  refine v_aload_n C dX5_init_4 rfl rfl ?_
  refine v_iload_n C dX5_init_5 rfl rfl ?_
  refine v_putF C dX5_init_6 0 h0 rfl in_X6 tyX6 tyX6_ok nmX6 (by decide) g_fl_X5_9 (fun _ h9 => h9) rfl hin rfl (tyX_at tyX6_ok (by decide)) rfl rfl (Nat.le_of_ble_eq_true rfl) ?_
  refine v_aload_n C dX5_init_9 rfl rfl ?_
  refine v_iload_n C dX5_init_10 rfl rfl ?_
  refine v_putF C dX5_init_11 1 (va_up_self _ _ _) rfl in_X6 tyX6 tyX6_ok nmX6 (by decide) g_fl_X5_15 (fun _ h9 => h9) rfl hin rfl (tyX_at tyX6_ok (by decide)) rfl rfl (Nat.le_of_ble_eq_true rfl) ?_
  refine v_aload_n C dX5_init_14 rfl rfl ?_
  refine v_iload_n C dX5_init_15 rfl rfl ?_
  refine v_putF C dX5_init_16 2 (va_up_self _ _ _) rfl in_X6 tyX6 tyX6_ok nmX6 (by decide) g_fl_X5_18 (fun _ h9 => h9) rfl hin rfl (tyX_at tyX6_ok (by decide)) rfl rfl (Nat.le_of_ble_eq_true rfl) ?_
  refine v_aload_n C dX5_init_19 rfl rfl ?_
  refine v_lload C dX5_init_20 rfl ?_
  refine v_putF C dX5_init_22 3 (va_up_self _ _ _) rfl in_X6 tyX6 tyX6_ok nmX6 (by decide) g_fl_X5_21 (fun _ h9 => h9) rfl hin rfl (tyX_at tyX6_ok (by decide)) rfl rfl (Nat.le_of_ble_eq_true rfl) ?_
  exact v_vret C hr hlk dX5_init_25 (Nat.le_refl _) (Nat.le_refl _) (by rw [bx_uu, bx_uu, bx_uu]; rfl)

set_option maxHeartbeats 4000000 in
set_option maxRecDepth 100000 in
theorem c_Single_init_X4 (l : Launch) (D : va_G) (B : Nat) (K : Nat → ClassId) (f : St) (a0 : Nat) (num kd : Int32) (sz : Int64) (x0 x1 x2 x3 x4 x5 : Value) (h0 : f a0 = some (.inr (4, [x0, x1, x2, x3, x4, x5]))) : Kc l D B K yX7_init cX7_init 5 none 2 0 0 [.ref a0, .int num, .int kd, .long sz] f (Qv_ D B (fun f9 => f9 = va_up f a0 (some (.inr (4, [.int num, .int kd, .int 1, .long sz, x4, x5]))))) := by
  refine v_met [(0, .ref a0), (1, .int num), (2, .int kd), (3, .long sz)] (by decide) (Nat.le_of_ble_eq_true rfl) rfl ?_
  intro p e s m args below meth c C hr hlk hin
  refine v_aload_n C dX7_init_0 rfl rfl ?_
  refine v_iload_n C dX7_init_1 rfl rfl ?_
  refine v_iload_n C dX7_init_2 rfl rfl ?_
  refine v_iconst (v := 1) C dX7_init_3 (by decide) ?_
  refine v_lload_n C dX7_init_4 rfl rfl ?_
  refine v_cv (r_I C (c_Range_init_X4 l D B K _ a0 _ _ _ _ _ _ _ _ _ _ h0) dX7_init_5 g_ml_X7_3 g_im_yX5_init g_in_X5 g_cd_yX5_init rfl (rn_le (by decide)) (by decide) rfl hdn_yX5_init (Nat.le_of_ble_eq_true rfl) ⟨Nat.le_of_ble_eq_true rfl, Nat.le_of_ble_eq_true rfl⟩) (fun f_5 hp_5 => ?_)
  subst hp_5
  exact v_vret C hr hlk dX7_init_8 (Nat.le_refl _) (Nat.le_refl _) rfl

set_option maxHeartbeats 4000000 in
set_option maxRecDepth 100000 in
theorem c_Single_init_X6 (l : Launch) (D : va_G) (B : Nat) (K : Nat → ClassId) (f : St) (a0 : Nat) (num kd : Int32) (sz : Int64) (x0 x1 x2 x3 x4 x5 x6 : Value) (h0 : f a0 = some (.inr (5, [x0, x1, x2, x3, x4, x5, x6]))) : Kc l D B K yX7_init cX7_init 5 none 2 0 0 [.ref a0, .int num, .int kd, .long sz] f (Qv_ D B (fun f9 => f9 = va_up f a0 (some (.inr (5, [.int num, .int kd, .int 1, .long sz, x4, x5, x6]))))) := by
  refine v_met [(0, .ref a0), (1, .int num), (2, .int kd), (3, .long sz)] (by decide) (Nat.le_of_ble_eq_true rfl) rfl ?_
  intro p e s m args below meth c C hr hlk hin
  refine v_aload_n C dX7_init_0 rfl rfl ?_
  refine v_iload_n C dX7_init_1 rfl rfl ?_
  refine v_iload_n C dX7_init_2 rfl rfl ?_
  refine v_iconst (v := 1) C dX7_init_3 (by decide) ?_
  refine v_lload_n C dX7_init_4 rfl rfl ?_
  refine v_cv (r_I C (c_Range_init_X6 l D B K _ a0 _ _ _ _ _ _ _ _ _ _ _ h0) dX7_init_5 g_ml_X7_3 g_im_yX5_init g_in_X5 g_cd_yX5_init rfl (rn_le (by decide)) (by decide) rfl hdn_yX5_init (Nat.le_of_ble_eq_true rfl) ⟨Nat.le_of_ble_eq_true rfl, Nat.le_of_ble_eq_true rfl⟩) (fun f_5 hp_5 => ?_)
  subst hp_5
  exact v_vret C hr hlk dX7_init_8 (Nat.le_refl _) (Nat.le_refl _) rfl

set_option maxHeartbeats 4000000 in
set_option maxRecDepth 100000 in
theorem c_Row_init (l : Launch) (D : va_G) (B : Nat) (K : Nat → ClassId) (f : St) (a0 : Nat) (num kd : Int32) (fi la : Int64) (sp : Int32) (sz : Int64) (x0 x1 x2 x3 x4 x5 x6 : Value) (h0 : f a0 = some (.inr (5, [x0, x1, x2, x3, x4, x5, x6]))) : Kc l D B K yX6_init cX6_init 10 none 3 0 0 [.ref a0, .int num, .int kd, .long fi, .long la, .int sp, .long sz] f (Qv_ D B (fun f9 => f9 = va_up f a0 (some (.inr (5, [.int num, .int kd, .int 1, .long sz, .long fi, .long la, .int sp]))))) := by
  refine v_met [(0, .ref a0), (1, .int num), (2, .int kd), (3, .long fi), (5, .long la), (7, .int sp), (8, .long sz)] (by decide) (Nat.le_of_ble_eq_true rfl) rfl ?_
  intro p e s m args below meth c C hr hlk hin
  refine v_aload_n C dX6_init_0 rfl rfl ?_
  refine v_iload_n C dX6_init_1 rfl rfl ?_
  refine v_iload_n C dX6_init_2 rfl rfl ?_
  refine v_lload C dX6_init_3 rfl ?_
  refine v_cv (r_I C (c_Single_init_X6 l D B K _ a0 _ _ _ _ _ _ _ _ _ _ h0) dX6_init_5 g_ml_X6_3 g_im_yX7_init g_in_X7 g_cd_yX7_init rfl (rn_le (by decide)) (by decide) rfl hdn_yX7_init (Nat.le_of_ble_eq_true rfl) ⟨Nat.le_of_ble_eq_true rfl, Nat.le_of_ble_eq_true rfl⟩) (fun f_5 hp_5 => ?_)
  subst hp_5
  refine v_aload_n C dX6_init_8 rfl rfl ?_
  refine v_lload_n C dX6_init_9 rfl rfl ?_
  refine v_putF C dX6_init_10 4 (va_up_self _ _ _) rfl in_X6 tyX6 tyX6_ok nmX6 (by decide) g_fl_X6_9 (fun _ h9 => h9) rfl hin rfl (tyX_at tyX6_ok (by decide)) rfl rfl (Nat.le_of_ble_eq_true rfl) ?_
  refine v_aload_n C dX6_init_13 rfl rfl ?_
  refine v_lload C dX6_init_14 rfl ?_
  refine v_putF C dX6_init_16 5 (va_up_self _ _ _) rfl in_X6 tyX6 tyX6_ok nmX6 (by decide) g_fl_X6_15 (fun _ h9 => h9) rfl hin rfl (tyX_at tyX6_ok (by decide)) rfl rfl (Nat.le_of_ble_eq_true rfl) ?_
  refine v_aload_n C dX6_init_19 rfl rfl ?_
  refine v_iload C dX6_init_20 rfl ?_
  refine v_putF C dX6_init_22 6 (va_up_self _ _ _) rfl in_X6 tyX6 tyX6_ok nmX6 (by decide) g_fl_X6_18 (fun _ h9 => h9) rfl hin rfl (tyX_at tyX6_ok (by decide)) rfl rfl (Nat.le_of_ble_eq_true rfl) ?_
  exact v_vret C hr hlk dX6_init_25 (Nat.le_refl _) (Nat.le_refl _) (by rw [bx_uu, bx_uu, bx_uu]; rfl)

set_option maxHeartbeats 4000000 in
set_option maxRecDepth 100000 in
theorem c_Names_init (l : Launch) (D : va_G) (B : Nat) (K : Nat → ClassId) (f : St) (a0 : Nat) (num ar fi sz : Int32) (x0 x1 x2 x3 x4 x5 : Value) (h0 : f a0 = some (.inr (4, [x0, x1, x2, x3, x4, x5]))) : Kc l D B K yX4_init cX4_init 5 none 3 0 0 [.ref a0, .int num, .int ar, .int fi, .int sz] f (Qv_ D B (fun f9 => f9 = va_up f a0 (some (.inr (4, [.int num, .int 2, .int 1, .long sz.toInt64, .int ar, .int fi]))))) := by
  refine v_met [(0, .ref a0), (1, .int num), (2, .int ar), (3, .int fi), (4, .int sz)] (by decide) (Nat.le_of_ble_eq_true rfl) rfl ?_
  intro p e s m args below meth c C hr hlk hin
  refine v_aload_n C dX4_init_0 rfl rfl ?_
  refine v_iload_n C dX4_init_1 rfl rfl ?_
  refine v_iconst (v := 2) C dX4_init_2 (by decide) ?_
  refine v_iload C dX4_init_3 rfl ?_
  refine v_i2l C dX4_init_5 ?_
  refine v_cv (r_I C (c_Single_init_X4 l D B K _ a0 _ _ _ _ _ _ _ _ _ h0) dX4_init_6 g_ml_X4_3 g_im_yX7_init g_in_X7 g_cd_yX7_init rfl (rn_le (by decide)) (by decide) rfl hdn_yX7_init (Nat.le_of_ble_eq_true rfl) ⟨Nat.le_of_ble_eq_true rfl, Nat.le_of_ble_eq_true rfl⟩) (fun f_6 hp_6 => ?_)
  subst hp_6
  refine v_aload_n C dX4_init_9 rfl rfl ?_
  refine v_iload_n C dX4_init_10 rfl rfl ?_
  refine v_putF C dX4_init_11 4 (va_up_self _ _ _) rfl in_X4 tyX4 tyX4_ok nmX4 (by decide) g_fl_X4_9 (fun _ h9 => h9) rfl hin rfl (tyX_at tyX4_ok (by decide)) rfl rfl (Nat.le_of_ble_eq_true rfl) ?_
  refine v_aload_n C dX4_init_14 rfl rfl ?_
  refine v_iload_n C dX4_init_15 rfl rfl ?_
  refine v_putF C dX4_init_16 5 (va_up_self _ _ _) rfl in_X4 tyX4 tyX4_ok nmX4 (by decide) g_fl_X4_15 (fun _ h9 => h9) rfl hin rfl (tyX_at tyX4_ok (by decide)) rfl rfl (Nat.le_of_ble_eq_true rfl) ?_
  exact v_vret C hr hlk dX4_init_19 (Nat.le_refl _) (Nat.le_refl _) (by rw [bx_uu, bx_uu]; rfl)

set_option maxHeartbeats 4000000 in
set_option maxRecDepth 100000 in
theorem c_Back_init_X0 (l : Launch) (D : va_G) (B : Nat) (K : Nat → ClassId) (f : St) (a0 b0 : Nat) (num w : Int32) (sz : Int64) (n0 n1 y4 : Value) (x0 x1 x2 x3 x4 : Value) (h0 : f a0 = some (.inr (0, [x0, x1, x2, x3, x4]))) (h1 : f b0 = some (.inr (0, [n0, n1, .int w, .long sz, y4]))) : Kc l D B K yX0_init cX0_init 3 none 2 0 0 [.ref a0, .int num, .ref b0] f (Qv_ D B (fun f9 => f9 = va_up f a0 (some (.inr (0, [.int num, .int 4, .int w, .long sz, .ref b0]))))) := by
  refine v_met [(0, .ref a0), (1, .int num), (2, .ref b0)] (by decide) (Nat.le_of_ble_eq_true rfl) rfl ?_
  intro p e s m args below meth c C hr hlk hin
  refine v_aload_n C dX0_init_0 rfl rfl ?_
  refine v_iload_n C dX0_init_1 rfl rfl ?_
  refine v_iconst (v := 4) C dX0_init_2 (by decide) ?_
  refine v_aload_n C dX0_init_3 rfl rfl ?_
  refine v_get C dX0_init_4 2 h1 rfl in_X0 (by decide) g_fl_X0_3 (fun _ h9 => h9) rfl ?_
  refine v_aload_n C dX0_init_7 rfl rfl ?_
  refine v_get C dX0_init_8 3 h1 rfl in_X0 (by decide) g_fl_X0_9 (fun _ h9 => h9) rfl ?_
  refine v_cv (r_I C (c_Range_init_X0 l D B K _ a0 _ _ _ _ _ _ _ _ _ h0) dX0_init_11 g_ml_X0_13 g_im_yX5_init g_in_X5 g_cd_yX5_init rfl (rn_le (by decide)) (by decide) rfl hdn_yX5_init (Nat.le_of_ble_eq_true rfl) ⟨Nat.le_of_ble_eq_true rfl, Nat.le_of_ble_eq_true rfl⟩) (fun f_11 hp_11 => ?_)
  subst hp_11
  refine v_aload_n C dX0_init_14 rfl rfl ?_
  refine v_aload_n C dX0_init_15 rfl rfl ?_
  refine v_putF C dX0_init_16 4 (va_up_self _ _ _) rfl in_X0 tyX0 tyX0_ok nmX0 (by decide) g_fl_X0_17 (fun _ h9 => h9) rfl hin rfl (tyX_at tyX0_ok (by decide)) rfl rfl (Nat.le_of_ble_eq_true rfl) ?_
  exact v_vret C hr hlk dX0_init_19 (Nat.le_refl _) (Nat.le_refl _) (by rw [bx_uu]; rfl)

set_option maxHeartbeats 4000000 in
set_option maxRecDepth 100000 in
theorem c_Back_init_X1 (l : Launch) (D : va_G) (B : Nat) (K : Nat → ClassId) (f : St) (a0 b0 : Nat) (num w : Int32) (sz : Int64) (n0 n1 y4 : Value) (x0 x1 x2 x3 x4 : Value) (h0 : f a0 = some (.inr (0, [x0, x1, x2, x3, x4]))) (h1 : f b0 = some (.inr (1, [n0, n1, .int w, .long sz, y4]))) : Kc l D B K yX0_init cX0_init 3 none 2 0 0 [.ref a0, .int num, .ref b0] f (Qv_ D B (fun f9 => f9 = va_up f a0 (some (.inr (0, [.int num, .int 4, .int w, .long sz, .ref b0]))))) := by
  refine v_met [(0, .ref a0), (1, .int num), (2, .ref b0)] (by decide) (Nat.le_of_ble_eq_true rfl) rfl ?_
  intro p e s m args below meth c C hr hlk hin
  refine v_aload_n C dX0_init_0 rfl rfl ?_
  refine v_iload_n C dX0_init_1 rfl rfl ?_
  refine v_iconst (v := 4) C dX0_init_2 (by decide) ?_
  refine v_aload_n C dX0_init_3 rfl rfl ?_
  refine v_get C dX0_init_4 2 h1 rfl in_X1 (by decide) g_fl_X0_3 (fun _ h9 => h9) rfl ?_
  refine v_aload_n C dX0_init_7 rfl rfl ?_
  refine v_get C dX0_init_8 3 h1 rfl in_X1 (by decide) g_fl_X0_9 (fun _ h9 => h9) rfl ?_
  refine v_cv (r_I C (c_Range_init_X0 l D B K _ a0 _ _ _ _ _ _ _ _ _ h0) dX0_init_11 g_ml_X0_13 g_im_yX5_init g_in_X5 g_cd_yX5_init rfl (rn_le (by decide)) (by decide) rfl hdn_yX5_init (Nat.le_of_ble_eq_true rfl) ⟨Nat.le_of_ble_eq_true rfl, Nat.le_of_ble_eq_true rfl⟩) (fun f_11 hp_11 => ?_)
  subst hp_11
  refine v_aload_n C dX0_init_14 rfl rfl ?_
  refine v_aload_n C dX0_init_15 rfl rfl ?_
  refine v_putF C dX0_init_16 4 (va_up_self _ _ _) rfl in_X0 tyX0 tyX0_ok nmX0 (by decide) g_fl_X0_17 (fun _ h9 => h9) rfl hin rfl (tyX_at tyX0_ok (by decide)) rfl rfl (Nat.le_of_ble_eq_true rfl) ?_
  exact v_vret C hr hlk dX0_init_19 (Nat.le_refl _) (Nat.le_refl _) (by rw [bx_uu]; rfl)

set_option maxHeartbeats 4000000 in
set_option maxRecDepth 100000 in
theorem c_Back_init_X4 (l : Launch) (D : va_G) (B : Nat) (K : Nat → ClassId) (f : St) (a0 b0 : Nat) (num w : Int32) (sz : Int64) (n0 n1 y4 y5 : Value) (x0 x1 x2 x3 x4 : Value) (h0 : f a0 = some (.inr (0, [x0, x1, x2, x3, x4]))) (h1 : f b0 = some (.inr (4, [n0, n1, .int w, .long sz, y4, y5]))) : Kc l D B K yX0_init cX0_init 3 none 2 0 0 [.ref a0, .int num, .ref b0] f (Qv_ D B (fun f9 => f9 = va_up f a0 (some (.inr (0, [.int num, .int 4, .int w, .long sz, .ref b0]))))) := by
  refine v_met [(0, .ref a0), (1, .int num), (2, .ref b0)] (by decide) (Nat.le_of_ble_eq_true rfl) rfl ?_
  intro p e s m args below meth c C hr hlk hin
  refine v_aload_n C dX0_init_0 rfl rfl ?_
  refine v_iload_n C dX0_init_1 rfl rfl ?_
  refine v_iconst (v := 4) C dX0_init_2 (by decide) ?_
  refine v_aload_n C dX0_init_3 rfl rfl ?_
  refine v_get C dX0_init_4 2 h1 rfl in_X4 (by decide) g_fl_X0_3 (fun _ h9 => h9) rfl ?_
  refine v_aload_n C dX0_init_7 rfl rfl ?_
  refine v_get C dX0_init_8 3 h1 rfl in_X4 (by decide) g_fl_X0_9 (fun _ h9 => h9) rfl ?_
  refine v_cv (r_I C (c_Range_init_X0 l D B K _ a0 _ _ _ _ _ _ _ _ _ h0) dX0_init_11 g_ml_X0_13 g_im_yX5_init g_in_X5 g_cd_yX5_init rfl (rn_le (by decide)) (by decide) rfl hdn_yX5_init (Nat.le_of_ble_eq_true rfl) ⟨Nat.le_of_ble_eq_true rfl, Nat.le_of_ble_eq_true rfl⟩) (fun f_11 hp_11 => ?_)
  subst hp_11
  refine v_aload_n C dX0_init_14 rfl rfl ?_
  refine v_aload_n C dX0_init_15 rfl rfl ?_
  refine v_putF C dX0_init_16 4 (va_up_self _ _ _) rfl in_X0 tyX0 tyX0_ok nmX0 (by decide) g_fl_X0_17 (fun _ h9 => h9) rfl hin rfl (tyX_at tyX0_ok (by decide)) rfl rfl (Nat.le_of_ble_eq_true rfl) ?_
  exact v_vret C hr hlk dX0_init_19 (Nat.le_refl _) (Nat.le_refl _) (by rw [bx_uu]; rfl)

set_option maxHeartbeats 4000000 in
set_option maxRecDepth 100000 in
theorem c_Back_init_X6 (l : Launch) (D : va_G) (B : Nat) (K : Nat → ClassId) (f : St) (a0 b0 : Nat) (num w : Int32) (sz : Int64) (n0 n1 y4 y5 y6 : Value) (x0 x1 x2 x3 x4 : Value) (h0 : f a0 = some (.inr (0, [x0, x1, x2, x3, x4]))) (h1 : f b0 = some (.inr (5, [n0, n1, .int w, .long sz, y4, y5, y6]))) : Kc l D B K yX0_init cX0_init 3 none 2 0 0 [.ref a0, .int num, .ref b0] f (Qv_ D B (fun f9 => f9 = va_up f a0 (some (.inr (0, [.int num, .int 4, .int w, .long sz, .ref b0]))))) := by
  refine v_met [(0, .ref a0), (1, .int num), (2, .ref b0)] (by decide) (Nat.le_of_ble_eq_true rfl) rfl ?_
  intro p e s m args below meth c C hr hlk hin
  refine v_aload_n C dX0_init_0 rfl rfl ?_
  refine v_iload_n C dX0_init_1 rfl rfl ?_
  refine v_iconst (v := 4) C dX0_init_2 (by decide) ?_
  refine v_aload_n C dX0_init_3 rfl rfl ?_
  refine v_get C dX0_init_4 2 h1 rfl in_X6 (by decide) g_fl_X0_3 (fun _ h9 => h9) rfl ?_
  refine v_aload_n C dX0_init_7 rfl rfl ?_
  refine v_get C dX0_init_8 3 h1 rfl in_X6 (by decide) g_fl_X0_9 (fun _ h9 => h9) rfl ?_
  refine v_cv (r_I C (c_Range_init_X0 l D B K _ a0 _ _ _ _ _ _ _ _ _ h0) dX0_init_11 g_ml_X0_13 g_im_yX5_init g_in_X5 g_cd_yX5_init rfl (rn_le (by decide)) (by decide) rfl hdn_yX5_init (Nat.le_of_ble_eq_true rfl) ⟨Nat.le_of_ble_eq_true rfl, Nat.le_of_ble_eq_true rfl⟩) (fun f_11 hp_11 => ?_)
  subst hp_11
  refine v_aload_n C dX0_init_14 rfl rfl ?_
  refine v_aload_n C dX0_init_15 rfl rfl ?_
  refine v_putF C dX0_init_16 4 (va_up_self _ _ _) rfl in_X0 tyX0 tyX0_ok nmX0 (by decide) g_fl_X0_17 (fun _ h9 => h9) rfl hin rfl (tyX_at tyX0_ok (by decide)) rfl rfl (Nat.le_of_ble_eq_true rfl) ?_
  exact v_vret C hr hlk dX0_init_19 (Nat.le_refl _) (Nat.le_refl _) (by rw [bx_uu]; rfl)

set_option maxHeartbeats 4000000 in
set_option maxRecDepth 100000 in
theorem c_Beside_init (l : Launch) (D : va_G) (B : Nat) (K : Nat → ClassId) (f : St) (a0 b0 : Nat) (num kd w : Int32) (sz : Int64) (x0 x1 x2 x3 x4 : Value) (h0 : f a0 = some (.inr (1, [x0, x1, x2, x3, x4]))) : Kc l D B K yX1_init cX1_init 7 none 2 0 0 [.ref a0, .int num, .int kd, .int w, .long sz, .ref b0] f (Qv_ D B (fun f9 => f9 = va_up f a0 (some (.inr (1, [.int num, .int kd, .int w, .long sz, .ref b0]))))) := by
  refine v_met [(0, .ref a0), (1, .int num), (2, .int kd), (3, .int w), (4, .long sz), (6, .ref b0)] (by decide) (Nat.le_of_ble_eq_true rfl) rfl ?_
  intro p e s m args below meth c C hr hlk hin
  refine v_aload_n C dX1_init_0 rfl rfl ?_
  refine v_iload_n C dX1_init_1 rfl rfl ?_
  refine v_iload_n C dX1_init_2 rfl rfl ?_
  refine v_iload_n C dX1_init_3 rfl rfl ?_
  refine v_lload C dX1_init_4 rfl ?_
  refine v_cv (r_I C (c_Range_init_X1 l D B K _ a0 _ _ _ _ _ _ _ _ _ h0) dX1_init_6 g_ml_X1_3 g_im_yX5_init g_in_X5 g_cd_yX5_init rfl (rn_le (by decide)) (by decide) rfl hdn_yX5_init (Nat.le_of_ble_eq_true rfl) ⟨Nat.le_of_ble_eq_true rfl, Nat.le_of_ble_eq_true rfl⟩) (fun f_6 hp_6 => ?_)
  subst hp_6
  refine v_aload_n C dX1_init_9 rfl rfl ?_
  refine v_aload C dX1_init_10 rfl ?_
  refine v_putF C dX1_init_12 4 (va_up_self _ _ _) rfl in_X1 tyX1 tyX1_ok nmX1 (by decide) g_fl_X1_9 (fun _ h9 => h9) rfl hin rfl (tyX_at tyX1_ok (by decide)) rfl rfl (Nat.le_of_ble_eq_true rfl) ?_
  exact v_vret C hr hlk dX1_init_15 (Nat.le_refl _) (Nat.le_refl _) (by rw [bx_uu]; rfl)

def rchC (sz k : Int64) : Int32 := if k < (0 : Int64) then ((0 : Int32)) else if sz = (-1 : Int64) then ((1 : Int32)) else if sz ≤ k then ((0 : Int32)) else ((1 : Int32))
set_option maxHeartbeats 4000000 in
set_option maxRecDepth 100000 in
theorem c_reaches_X0 (l : Launch) (D : va_G) (B : Nat) (K : Nat → ClassId) (f : St) (a0 : Nat) (sz k : Int64) (n0 n1 n2 y4 : Value) (h0 : f a0 = some (.inr (0, [n0, n1, n2, .long sz, y4]))) : Kc l D B K yX5_reaches cX5_reaches 3 (some .boolean) 0 0 0 [.ref a0, .long k] f (Qi_ D B (fun r f9 => r = rchC sz k ∧ f9 = f)) := by
  refine v_met [(0, .ref a0), (1, .long k)] (by decide) (Nat.le_of_ble_eq_true rfl) rfl ?_
  intro p e s m args below meth c C hr hlk hin
  refine v_lload_n C dX5_reaches_0 rfl rfl ?_
  refine v_lconst (v := 0) C dX5_reaches_1 (by decide) ?_
  refine v_lc_lt (tgt := 30) C dX5_reaches_2 dX5_reaches_3 (by decide) (fun c_2 => ?_) (fun c_2 => ?_)
  · refine v_iconst (v := 0) C dX5_reaches_30 (by decide) ?_
    exact v_zret C hr hlk dX5_reaches_31 rfl (Nat.le_refl _) (Nat.le_refl _) ⟨by unfold rchC; rw [if_pos c_2], rfl⟩
  · refine v_aload_n C dX5_reaches_6 rfl rfl ?_
    refine v_get C dX5_reaches_7 3 h0 rfl in_X0 (by decide) g_fl_X5_21 (fun _ h9 => h9) rfl ?_
    refine v_ldc2 C dX5_reaches_10 g_kl_X5_25 ?_
    refine v_lc_eq (tgt := 26) C dX5_reaches_13 dX5_reaches_14 (by decide) (fun c_13 => ?_) (fun c_13 => ?_)
    · refine v_iconst (v := 1) C dX5_reaches_26 (by decide) ?_
      refine v_goto (tgt := 31) C dX5_reaches_27 (by decide) ?_
      exact v_zret C hr hlk dX5_reaches_31 rfl (Nat.le_refl _) (Nat.le_refl _) ⟨by unfold rchC; rw [if_neg c_2, if_pos c_13], rfl⟩
    · refine v_lload_n C dX5_reaches_17 rfl rfl ?_
      refine v_aload_n C dX5_reaches_18 rfl rfl ?_
      refine v_get C dX5_reaches_19 3 h0 rfl in_X0 (by decide) g_fl_X5_21 (fun _ h9 => h9) rfl ?_
      refine v_lc_ge (tgt := 30) C dX5_reaches_22 dX5_reaches_23 (by decide) (fun c_22 => ?_) (fun c_22 => ?_)
      · refine v_iconst (v := 0) C dX5_reaches_30 (by decide) ?_
        exact v_zret C hr hlk dX5_reaches_31 rfl (Nat.le_refl _) (Nat.le_refl _) ⟨by unfold rchC; rw [if_neg c_2, if_neg c_13, if_pos c_22], rfl⟩
      · refine v_iconst (v := 1) C dX5_reaches_26 (by decide) ?_
        refine v_goto (tgt := 31) C dX5_reaches_27 (by decide) ?_
        exact v_zret C hr hlk dX5_reaches_31 rfl (Nat.le_refl _) (Nat.le_refl _) ⟨by unfold rchC; rw [if_neg c_2, if_neg c_13, if_neg c_22], rfl⟩

set_option maxHeartbeats 4000000 in
set_option maxRecDepth 100000 in
theorem c_reaches_X1 (l : Launch) (D : va_G) (B : Nat) (K : Nat → ClassId) (f : St) (a0 : Nat) (sz k : Int64) (n0 n1 n2 y4 : Value) (h0 : f a0 = some (.inr (1, [n0, n1, n2, .long sz, y4]))) : Kc l D B K yX5_reaches cX5_reaches 3 (some .boolean) 0 0 0 [.ref a0, .long k] f (Qi_ D B (fun r f9 => r = rchC sz k ∧ f9 = f)) := by
  refine v_met [(0, .ref a0), (1, .long k)] (by decide) (Nat.le_of_ble_eq_true rfl) rfl ?_
  intro p e s m args below meth c C hr hlk hin
  refine v_lload_n C dX5_reaches_0 rfl rfl ?_
  refine v_lconst (v := 0) C dX5_reaches_1 (by decide) ?_
  refine v_lc_lt (tgt := 30) C dX5_reaches_2 dX5_reaches_3 (by decide) (fun c_2 => ?_) (fun c_2 => ?_)
  · refine v_iconst (v := 0) C dX5_reaches_30 (by decide) ?_
    exact v_zret C hr hlk dX5_reaches_31 rfl (Nat.le_refl _) (Nat.le_refl _) ⟨by unfold rchC; rw [if_pos c_2], rfl⟩
  · refine v_aload_n C dX5_reaches_6 rfl rfl ?_
    refine v_get C dX5_reaches_7 3 h0 rfl in_X1 (by decide) g_fl_X5_21 (fun _ h9 => h9) rfl ?_
    refine v_ldc2 C dX5_reaches_10 g_kl_X5_25 ?_
    refine v_lc_eq (tgt := 26) C dX5_reaches_13 dX5_reaches_14 (by decide) (fun c_13 => ?_) (fun c_13 => ?_)
    · refine v_iconst (v := 1) C dX5_reaches_26 (by decide) ?_
      refine v_goto (tgt := 31) C dX5_reaches_27 (by decide) ?_
      exact v_zret C hr hlk dX5_reaches_31 rfl (Nat.le_refl _) (Nat.le_refl _) ⟨by unfold rchC; rw [if_neg c_2, if_pos c_13], rfl⟩
    · refine v_lload_n C dX5_reaches_17 rfl rfl ?_
      refine v_aload_n C dX5_reaches_18 rfl rfl ?_
      refine v_get C dX5_reaches_19 3 h0 rfl in_X1 (by decide) g_fl_X5_21 (fun _ h9 => h9) rfl ?_
      refine v_lc_ge (tgt := 30) C dX5_reaches_22 dX5_reaches_23 (by decide) (fun c_22 => ?_) (fun c_22 => ?_)
      · refine v_iconst (v := 0) C dX5_reaches_30 (by decide) ?_
        exact v_zret C hr hlk dX5_reaches_31 rfl (Nat.le_refl _) (Nat.le_refl _) ⟨by unfold rchC; rw [if_neg c_2, if_neg c_13, if_pos c_22], rfl⟩
      · refine v_iconst (v := 1) C dX5_reaches_26 (by decide) ?_
        refine v_goto (tgt := 31) C dX5_reaches_27 (by decide) ?_
        exact v_zret C hr hlk dX5_reaches_31 rfl (Nat.le_refl _) (Nat.le_refl _) ⟨by unfold rchC; rw [if_neg c_2, if_neg c_13, if_neg c_22], rfl⟩

set_option maxHeartbeats 4000000 in
set_option maxRecDepth 100000 in
theorem c_reaches_X4 (l : Launch) (D : va_G) (B : Nat) (K : Nat → ClassId) (f : St) (a0 : Nat) (sz k : Int64) (n0 n1 n2 y4 y5 : Value) (h0 : f a0 = some (.inr (4, [n0, n1, n2, .long sz, y4, y5]))) : Kc l D B K yX5_reaches cX5_reaches 3 (some .boolean) 0 0 0 [.ref a0, .long k] f (Qi_ D B (fun r f9 => r = rchC sz k ∧ f9 = f)) := by
  refine v_met [(0, .ref a0), (1, .long k)] (by decide) (Nat.le_of_ble_eq_true rfl) rfl ?_
  intro p e s m args below meth c C hr hlk hin
  refine v_lload_n C dX5_reaches_0 rfl rfl ?_
  refine v_lconst (v := 0) C dX5_reaches_1 (by decide) ?_
  refine v_lc_lt (tgt := 30) C dX5_reaches_2 dX5_reaches_3 (by decide) (fun c_2 => ?_) (fun c_2 => ?_)
  · refine v_iconst (v := 0) C dX5_reaches_30 (by decide) ?_
    exact v_zret C hr hlk dX5_reaches_31 rfl (Nat.le_refl _) (Nat.le_refl _) ⟨by unfold rchC; rw [if_pos c_2], rfl⟩
  · refine v_aload_n C dX5_reaches_6 rfl rfl ?_
    refine v_get C dX5_reaches_7 3 h0 rfl in_X4 (by decide) g_fl_X5_21 (fun _ h9 => h9) rfl ?_
    refine v_ldc2 C dX5_reaches_10 g_kl_X5_25 ?_
    refine v_lc_eq (tgt := 26) C dX5_reaches_13 dX5_reaches_14 (by decide) (fun c_13 => ?_) (fun c_13 => ?_)
    · refine v_iconst (v := 1) C dX5_reaches_26 (by decide) ?_
      refine v_goto (tgt := 31) C dX5_reaches_27 (by decide) ?_
      exact v_zret C hr hlk dX5_reaches_31 rfl (Nat.le_refl _) (Nat.le_refl _) ⟨by unfold rchC; rw [if_neg c_2, if_pos c_13], rfl⟩
    · refine v_lload_n C dX5_reaches_17 rfl rfl ?_
      refine v_aload_n C dX5_reaches_18 rfl rfl ?_
      refine v_get C dX5_reaches_19 3 h0 rfl in_X4 (by decide) g_fl_X5_21 (fun _ h9 => h9) rfl ?_
      refine v_lc_ge (tgt := 30) C dX5_reaches_22 dX5_reaches_23 (by decide) (fun c_22 => ?_) (fun c_22 => ?_)
      · refine v_iconst (v := 0) C dX5_reaches_30 (by decide) ?_
        exact v_zret C hr hlk dX5_reaches_31 rfl (Nat.le_refl _) (Nat.le_refl _) ⟨by unfold rchC; rw [if_neg c_2, if_neg c_13, if_pos c_22], rfl⟩
      · refine v_iconst (v := 1) C dX5_reaches_26 (by decide) ?_
        refine v_goto (tgt := 31) C dX5_reaches_27 (by decide) ?_
        exact v_zret C hr hlk dX5_reaches_31 rfl (Nat.le_refl _) (Nat.le_refl _) ⟨by unfold rchC; rw [if_neg c_2, if_neg c_13, if_neg c_22], rfl⟩

set_option maxHeartbeats 4000000 in
set_option maxRecDepth 100000 in
theorem c_reaches_X6 (l : Launch) (D : va_G) (B : Nat) (K : Nat → ClassId) (f : St) (a0 : Nat) (sz k : Int64) (n0 n1 n2 y4 y5 y6 : Value) (h0 : f a0 = some (.inr (5, [n0, n1, n2, .long sz, y4, y5, y6]))) : Kc l D B K yX5_reaches cX5_reaches 3 (some .boolean) 0 0 0 [.ref a0, .long k] f (Qi_ D B (fun r f9 => r = rchC sz k ∧ f9 = f)) := by
  refine v_met [(0, .ref a0), (1, .long k)] (by decide) (Nat.le_of_ble_eq_true rfl) rfl ?_
  intro p e s m args below meth c C hr hlk hin
  refine v_lload_n C dX5_reaches_0 rfl rfl ?_
  refine v_lconst (v := 0) C dX5_reaches_1 (by decide) ?_
  refine v_lc_lt (tgt := 30) C dX5_reaches_2 dX5_reaches_3 (by decide) (fun c_2 => ?_) (fun c_2 => ?_)
  · refine v_iconst (v := 0) C dX5_reaches_30 (by decide) ?_
    exact v_zret C hr hlk dX5_reaches_31 rfl (Nat.le_refl _) (Nat.le_refl _) ⟨by unfold rchC; rw [if_pos c_2], rfl⟩
  · refine v_aload_n C dX5_reaches_6 rfl rfl ?_
    refine v_get C dX5_reaches_7 3 h0 rfl in_X6 (by decide) g_fl_X5_21 (fun _ h9 => h9) rfl ?_
    refine v_ldc2 C dX5_reaches_10 g_kl_X5_25 ?_
    refine v_lc_eq (tgt := 26) C dX5_reaches_13 dX5_reaches_14 (by decide) (fun c_13 => ?_) (fun c_13 => ?_)
    · refine v_iconst (v := 1) C dX5_reaches_26 (by decide) ?_
      refine v_goto (tgt := 31) C dX5_reaches_27 (by decide) ?_
      exact v_zret C hr hlk dX5_reaches_31 rfl (Nat.le_refl _) (Nat.le_refl _) ⟨by unfold rchC; rw [if_neg c_2, if_pos c_13], rfl⟩
    · refine v_lload_n C dX5_reaches_17 rfl rfl ?_
      refine v_aload_n C dX5_reaches_18 rfl rfl ?_
      refine v_get C dX5_reaches_19 3 h0 rfl in_X6 (by decide) g_fl_X5_21 (fun _ h9 => h9) rfl ?_
      refine v_lc_ge (tgt := 30) C dX5_reaches_22 dX5_reaches_23 (by decide) (fun c_22 => ?_) (fun c_22 => ?_)
      · refine v_iconst (v := 0) C dX5_reaches_30 (by decide) ?_
        exact v_zret C hr hlk dX5_reaches_31 rfl (Nat.le_refl _) (Nat.le_refl _) ⟨by unfold rchC; rw [if_neg c_2, if_neg c_13, if_pos c_22], rfl⟩
      · refine v_iconst (v := 1) C dX5_reaches_26 (by decide) ?_
        refine v_goto (tgt := 31) C dX5_reaches_27 (by decide) ?_
        exact v_zret C hr hlk dX5_reaches_31 rfl (Nat.le_refl _) (Nat.le_refl _) ⟨by unfold rchC; rw [if_neg c_2, if_neg c_13, if_neg c_22], rfl⟩

set_option maxHeartbeats 4000000 in
set_option maxRecDepth 100000 in
theorem c_Back_madeOf (l : Launch) (D : va_G) (B : Nat) (K : Nat → ClassId) (f : St) (a0 : Nat) : Kc l D B K yX0_madeOf cX0_madeOf 1 (some .int) 0 0 0 [.ref a0] f (Qi_ D B (fun r f9 => r = 1 ∧ f9 = f)) := by
  refine v_met [(0, .ref a0)] (by decide) (Nat.le_of_ble_eq_true rfl) rfl ?_
  intro p e s m args below meth c C hr hlk hin
  refine v_iconst (v := 1) C dX0_madeOf_0 (by decide) ?_
  exact v_iret C hr hlk dX0_madeOf_1 (Nat.le_refl _) (Nat.le_refl _) ⟨rfl, rfl⟩

set_option maxHeartbeats 4000000 in
set_option maxRecDepth 100000 in
theorem c_Single_madeOf (l : Launch) (D : va_G) (B : Nat) (K : Nat → ClassId) (f : St) (a0 : Nat) : Kc l D B K yX7_madeOf cX7_madeOf 1 (some .int) 0 0 0 [.ref a0] f (Qi_ D B (fun r f9 => r = 0 ∧ f9 = f)) := by
  refine v_met [(0, .ref a0)] (by decide) (Nat.le_of_ble_eq_true rfl) rfl ?_
  intro p e s m args below meth c C hr hlk hin
  refine v_iconst (v := 0) C dX7_madeOf_0 (by decide) ?_
  exact v_iret C hr hlk dX7_madeOf_1 (Nat.le_refl _) (Nat.le_refl _) ⟨rfl, rfl⟩

set_option maxHeartbeats 4000000 in
set_option maxRecDepth 100000 in
theorem c_Beside_madeOf (l : Launch) (D : va_G) (B : Nat) (K : Nat → ClassId) (f : St) (a0 pa len : Nat) (g : Nat → Option Nat) (x0 x1 x2 x3 : Value) (h0 : f a0 = some (.inr (1, [x0, x1, x2, x3, .ref pa]))) (h1 : f pa = some (.inl (K 3, len, .inr (.inr (.inr (.inr g)))))) : Kc l D B K yX1_madeOf cX1_madeOf 1 (some .int) 0 0 0 [.ref a0] f (Qi_ D B (fun r f9 => r = nI len ∧ f9 = f)) := by
  refine v_met [(0, .ref a0)] (by decide) (Nat.le_of_ble_eq_true rfl) rfl ?_
  intro p e s m args below meth c C hr hlk hin
  refine v_aload_n C dX1_madeOf_0 rfl rfl ?_
  refine v_get C dX1_madeOf_1 4 h0 rfl in_X1 (by decide) g_fl_X1_9 (fun _ h9 => h9) rfl ?_
  refine v_alen C dX1_madeOf_4 3 h1 rfl rfl ?_
  exact v_iret C hr hlk dX1_madeOf_5 (Nat.le_refl _) (Nat.le_refl _) ⟨rfl, rfl⟩

