/-! leaves: methods that touch no cell -/
theorem tyX_at {N : Nat} {T : u_T} {ty : Nat → FieldType} (h : ∀ k, k < N → parseFieldDescriptor (T k).2.2.1 = some (ty k)) {k : Nat} (hk : k < N) : parseFieldDescriptor (T k).2.2.1 = some (ty k) := h k hk
def tmC (a : Int64) (b : Int64) : Int64 := if a = (0 : Int64) then ((0 : Int64)) else if b = (0 : Int64) then ((0 : Int64)) else if a = (-1 : Int64) then ((-1 : Int64)) else if b = (-1 : Int64) then ((-1 : Int64)) else if a ≤ ((9223372036854775807 : Int64) / b) then (a * b) else ((-1 : Int64))
set_option maxHeartbeats 4000000 in
set_option maxRecDepth 100000 in
theorem c_times (l : Launch) (D : va_G) (B : Nat) (K : Nat → ClassId) (f : St) (a : Int64) (b : Int64) : Kc l D B K yX8_times cX8_times 4 (some .long) 0 0 0 [.long a, .long b] f (Ql_ D B (fun r f9 => r = tmC a b ∧ f9 = f)) := by
  refine v_met [(0, .long a), (2, .long b)] (by decide) (Nat.le_of_ble_eq_true rfl) rfl ?_
  intro p e s m args below meth c C hr hlk hin
  refine v_lload_n C dX8_times_0 rfl rfl ?_
  refine v_lconst (v := 0) C dX8_times_1 (by decide) ?_
  refine v_lc_eq (tgt := 12) C dX8_times_2 dX8_times_3 (by decide) (fun c_2 => ?_) (fun c_2 => ?_)
  · refine v_lconst (v := 0) C dX8_times_12 (by decide) ?_
    exact v_lret C hr hlk dX8_times_13 (Nat.le_refl _) (Nat.le_refl _) ⟨by unfold tmC; rw [if_pos c_2], rfl⟩
  · refine v_lload_n C dX8_times_6 rfl rfl ?_
    refine v_lconst (v := 0) C dX8_times_7 (by decide) ?_
    refine v_lc_ne (tgt := 14) C dX8_times_8 dX8_times_9 (by decide) (fun c_8 => ?_) (fun c_8 => ?_)
    · refine v_lload_n C dX8_times_14 rfl rfl ?_
      refine v_ldc2 C dX8_times_15 g_kl_X8_79 ?_
      refine v_lc_eq (tgt := 40) C dX8_times_18 dX8_times_19 (by decide) (fun c_18 => ?_) (fun c_18 => ?_)
      · refine v_ldc2 C dX8_times_40 g_kl_X8_79 ?_
        exact v_lret C hr hlk dX8_times_43 (Nat.le_refl _) (Nat.le_refl _) ⟨by unfold tmC; rw [if_neg c_2, if_neg c_8, if_pos c_18], rfl⟩
      · refine v_lload_n C dX8_times_22 rfl rfl ?_
        refine v_ldc2 C dX8_times_23 g_kl_X8_79 ?_
        refine v_lc_eq (tgt := 40) C dX8_times_26 dX8_times_27 (by decide) (fun c_26 => ?_) (fun c_26 => ?_)
        · refine v_ldc2 C dX8_times_40 g_kl_X8_79 ?_
          exact v_lret C hr hlk dX8_times_43 (Nat.le_refl _) (Nat.le_refl _) ⟨by unfold tmC; rw [if_neg c_2, if_neg c_8, if_neg c_18, if_pos c_26], rfl⟩
        · refine v_lload_n C dX8_times_30 rfl rfl ?_
          refine v_ldc2 C dX8_times_31 g_kl_X8_141 ?_
          refine v_lload_n C dX8_times_34 rfl rfl ?_
          refine v_ldiv C dX8_times_35 (by assumption) ?_
          refine v_lc_le (tgt := 44) C dX8_times_36 dX8_times_37 (by decide) (fun c_36 => ?_) (fun c_36 => ?_)
          · refine v_lload_n C dX8_times_44 rfl rfl ?_
            refine v_lload_n C dX8_times_45 rfl rfl ?_
            refine v_lmul C dX8_times_46 ?_
            exact v_lret C hr hlk dX8_times_47 (Nat.le_refl _) (Nat.le_refl _) ⟨by unfold tmC; rw [if_neg c_2, if_neg c_8, if_neg c_18, if_neg c_26, if_pos c_36], rfl⟩
          · refine v_ldc2 C dX8_times_40 g_kl_X8_79 ?_
            exact v_lret C hr hlk dX8_times_43 (Nat.le_refl _) (Nat.le_refl _) ⟨by unfold tmC; rw [if_neg c_2, if_neg c_8, if_neg c_18, if_neg c_26, if_neg c_36], rfl⟩
    · refine v_lconst (v := 0) C dX8_times_12 (by decide) ?_
      exact v_lret C hr hlk dX8_times_13 (Nat.le_refl _) (Nat.le_refl _) ⟨by unfold tmC; rw [if_neg c_2, if_pos c_8], rfl⟩

def plC (a : Int64) (b : Int64) : Int64 := if a = (-1 : Int64) then ((-1 : Int64)) else if b = (-1 : Int64) then ((-1 : Int64)) else if a ≤ ((9223372036854775807 : Int64) - b) then (a + b) else ((-1 : Int64))
set_option maxHeartbeats 4000000 in
set_option maxRecDepth 100000 in
theorem c_plus (l : Launch) (D : va_G) (B : Nat) (K : Nat → ClassId) (f : St) (a : Int64) (b : Int64) : Kc l D B K yX8_plus cX8_plus 4 (some .long) 0 0 0 [.long a, .long b] f (Ql_ D B (fun r f9 => r = plC a b ∧ f9 = f)) := by
  refine v_met [(0, .long a), (2, .long b)] (by decide) (Nat.le_of_ble_eq_true rfl) rfl ?_
  intro p e s m args below meth c C hr hlk hin
  refine v_lload_n C dX8_plus_0 rfl rfl ?_
  refine v_ldc2 C dX8_plus_1 g_kl_X8_79 ?_
  refine v_lc_eq (tgt := 26) C dX8_plus_4 dX8_plus_5 (by decide) (fun c_4 => ?_) (fun c_4 => ?_)
  · refine v_ldc2 C dX8_plus_26 g_kl_X8_79 ?_
    exact v_lret C hr hlk dX8_plus_29 (Nat.le_refl _) (Nat.le_refl _) ⟨by unfold plC; rw [if_pos c_4], rfl⟩
  · refine v_lload_n C dX8_plus_8 rfl rfl ?_
    refine v_ldc2 C dX8_plus_9 g_kl_X8_79 ?_
    refine v_lc_eq (tgt := 26) C dX8_plus_12 dX8_plus_13 (by decide) (fun c_12 => ?_) (fun c_12 => ?_)
    · refine v_ldc2 C dX8_plus_26 g_kl_X8_79 ?_
      exact v_lret C hr hlk dX8_plus_29 (Nat.le_refl _) (Nat.le_refl _) ⟨by unfold plC; rw [if_neg c_4, if_pos c_12], rfl⟩
    · refine v_lload_n C dX8_plus_16 rfl rfl ?_
      refine v_ldc2 C dX8_plus_17 g_kl_X8_141 ?_
      refine v_lload_n C dX8_plus_20 rfl rfl ?_
      refine v_lsub C dX8_plus_21 ?_
      refine v_lc_le (tgt := 30) C dX8_plus_22 dX8_plus_23 (by decide) (fun c_22 => ?_) (fun c_22 => ?_)
      · refine v_lload_n C dX8_plus_30 rfl rfl ?_
        refine v_lload_n C dX8_plus_31 rfl rfl ?_
        refine v_ladd C dX8_plus_32 ?_
        exact v_lret C hr hlk dX8_plus_33 (Nat.le_refl _) (Nat.le_refl _) ⟨by unfold plC; rw [if_neg c_4, if_neg c_12, if_pos c_22], rfl⟩
      · refine v_ldc2 C dX8_plus_26 g_kl_X8_79 ?_
        exact v_lret C hr hlk dX8_plus_29 (Nat.le_refl _) (Nat.le_refl _) ⟨by unfold plC; rw [if_neg c_4, if_neg c_12, if_neg c_22], rfl⟩

def upC (x : Int32) (m9 : Int32) : Int32 := if x < (0 : Int32) then ((0 : Int32)) else if m9 < x then ((0 : Int32)) else ((1 : Int32))
set_option maxHeartbeats 4000000 in
set_option maxRecDepth 100000 in
theorem c_isUpTo (l : Launch) (D : va_G) (B : Nat) (K : Nat → ClassId) (f : St) (x : Int32) (m9 : Int32) : Kc l D B K yX8_isUpTo cX8_isUpTo 2 (some .boolean) 0 0 0 [.int x, .int m9] f (Qi_ D B (fun r f9 => r = upC x m9 ∧ f9 = f)) := by
  refine v_met [(0, .int x), (1, .int m9)] (by decide) (Nat.le_of_ble_eq_true rfl) rfl ?_
  intro p e s m args below meth c C hr hlk hin
  refine v_iload_n C dX8_isUpTo_0 rfl rfl ?_
  refine v_if_lt (tgt := 13) C dX8_isUpTo_1 (by decide) (fun c_1 => ?_) (fun c_1 => ?_)
  · refine v_iconst (v := 0) C dX8_isUpTo_13 (by decide) ?_
    exact v_zret C hr hlk dX8_isUpTo_14 rfl (Nat.le_refl _) (Nat.le_refl _) ⟨by unfold upC; rw [if_pos c_1], rfl⟩
  · refine v_iload_n C dX8_isUpTo_4 rfl rfl ?_
    refine v_iload_n C dX8_isUpTo_5 rfl rfl ?_
    refine v_icmp_gt (tgt := 13) C dX8_isUpTo_6 (by decide) (fun c_6 => ?_) (fun c_6 => ?_)
    · refine v_iconst (v := 0) C dX8_isUpTo_13 (by decide) ?_
      exact v_zret C hr hlk dX8_isUpTo_14 rfl (Nat.le_refl _) (Nat.le_refl _) ⟨by unfold upC; rw [if_neg c_1, if_pos c_6], rfl⟩
    · refine v_iconst (v := 1) C dX8_isUpTo_9 (by decide) ?_
      refine v_goto (tgt := 14) C dX8_isUpTo_10 (by decide) ?_
      exact v_zret C hr hlk dX8_isUpTo_14 rfl (Nat.le_refl _) (Nat.le_refl _) ⟨by unfold upC; rw [if_neg c_1, if_neg c_6], rfl⟩

def lcC (x : Int32) : Int64 := (x.toInt64 - (1000000000 : Int64))
set_option maxHeartbeats 4000000 in
set_option maxRecDepth 100000 in
theorem c_longCode (l : Launch) (D : va_G) (B : Nat) (K : Nat → ClassId) (f : St) (x : Int32) : Kc l D B K yX8_longCode cX8_longCode 1 (some .long) 0 0 0 [.int x] f (Ql_ D B (fun r f9 => r = lcC x ∧ f9 = f)) := by
  refine v_met [(0, .int x)] (by decide) (Nat.le_of_ble_eq_true rfl) rfl ?_
  intro p e s m args below meth c C hr hlk hin
  refine v_iload_n C dX8_longCode_0 rfl rfl ?_
  refine v_i2l C dX8_longCode_1 ?_
  refine v_ldc2 C dX8_longCode_2 g_kl_X8_196 ?_
  refine v_lsub C dX8_longCode_5 ?_
  exact v_lret C hr hlk dX8_longCode_6 (Nat.le_refl _) (Nat.le_refl _) ⟨by unfold lcC; rfl, rfl⟩

def quC (d9 : Int64) (s9 : Int64) : Int64 := if (1 : Int64) ≤ s9 then if (d9 - (((((d9.toUInt64 >>> ((1 : Int32).toInt64.toUInt64 &&& Int64.toUInt64 63)).toInt64) / s9) <<< ((1 : Int32).toInt64 &&& 63)) * s9)) < s9 then ((((d9.toUInt64 >>> ((1 : Int32).toInt64.toUInt64 &&& Int64.toUInt64 63)).toInt64) / s9) <<< ((1 : Int32).toInt64 &&& 63)) else (((((d9.toUInt64 >>> ((1 : Int32).toInt64.toUInt64 &&& Int64.toUInt64 63)).toInt64) / s9) <<< ((1 : Int32).toInt64 &&& 63)) + (1 : Int64)) else ((0 : Int64))
set_option maxHeartbeats 4000000 in
set_option maxRecDepth 100000 in
theorem c_quotient (l : Launch) (D : va_G) (B : Nat) (K : Nat → ClassId) (f : St) (d9 : Int64) (s9 : Int64) : Kc l D B K yX8_quotient cX8_quotient 6 (some .long) 0 0 0 [.long d9, .long s9] f (Ql_ D B (fun r f9 => r = quC d9 s9 ∧ f9 = f)) := by
  refine v_met [(0, .long d9), (2, .long s9)] (by decide) (Nat.le_of_ble_eq_true rfl) rfl ?_
  intro p e s m args below meth c C hr hlk hin
  refine v_lload_n C dX8_quotient_0 rfl rfl ?_
  refine v_lconst (v := 1) C dX8_quotient_1 (by decide) ?_
  refine v_lc_ge (tgt := 8) C dX8_quotient_2 dX8_quotient_3 (by decide) (fun c_2 => ?_) (fun c_2 => ?_)
  · refine v_lload_n C dX8_quotient_8 rfl rfl ?_
    refine v_iconst (v := 1) C dX8_quotient_9 (by decide) ?_
    refine v_lushr C dX8_quotient_10 ?_
    refine v_lload_n C dX8_quotient_11 rfl rfl ?_
    refine v_ldiv C dX8_quotient_12 (fun h9 => absurd c_2 (by rw [h9]; decide)) ?_
    refine v_iconst (v := 1) C dX8_quotient_13 (by decide) ?_
    refine v_lshl C dX8_quotient_14 ?_
    refine v_lstore C dX8_quotient_15 (by decide) rfl ?_
    refine v_lload_n C dX8_quotient_17 rfl rfl ?_
    refine v_lload C dX8_quotient_18 rfl ?_
    refine v_lload_n C dX8_quotient_20 rfl rfl ?_
    refine v_lmul C dX8_quotient_21 ?_
    refine v_lsub C dX8_quotient_22 ?_
    refine v_lload_n C dX8_quotient_23 rfl rfl ?_
    refine v_lc_lt (tgt := 35) C dX8_quotient_24 dX8_quotient_25 (by decide) (fun c_24 => ?_) (fun c_24 => ?_)
    · refine v_lload C dX8_quotient_35 rfl ?_
      exact v_lret C hr hlk dX8_quotient_37 (Nat.le_refl _) (Nat.le_refl _) ⟨by unfold quC; rw [if_pos c_2, if_pos c_24], rfl⟩
    · refine v_lload C dX8_quotient_28 rfl ?_
      refine v_lconst (v := 1) C dX8_quotient_30 (by decide) ?_
      refine v_ladd C dX8_quotient_31 ?_
      refine v_goto (tgt := 37) C dX8_quotient_32 (by decide) ?_
      exact v_lret C hr hlk dX8_quotient_37 (Nat.le_refl _) (Nat.le_refl _) ⟨by unfold quC; rw [if_pos c_2, if_neg c_24], rfl⟩
  · refine v_lconst (v := 0) C dX8_quotient_6 (by decide) ?_
    exact v_lret C hr hlk dX8_quotient_7 (Nat.le_refl _) (Nat.le_refl _) ⟨by unfold quC; rw [if_neg c_2], rfl⟩

def tmM (a : Int64) (b : Int64) : Int64 := if a = (0 : Int64) then ((0 : Int64)) else if b = (0 : Int64) then ((0 : Int64)) else if a = (-1 : Int64) then ((-1 : Int64)) else if b = (-1 : Int64) then ((-1 : Int64)) else if a ≤ ((9223372036854775807 : Int64) / b) then (a * b) else ((-1 : Int64))
set_option maxHeartbeats 4000000 in
set_option maxRecDepth 100000 in
theorem m_times (l : Launch) (D : va_G) (B : Nat) (K : Nat → ClassId) (f : St) (a : Int64) (b : Int64) : Kc l D B K yX9_times cX9_times 4 (some .long) 0 0 0 [.long a, .long b] f (Ql_ D B (fun r f9 => r = tmM a b ∧ f9 = f)) := by
  refine v_met [(0, .long a), (2, .long b)] (by decide) (Nat.le_of_ble_eq_true rfl) rfl ?_
  intro p e s m args below meth c C hr hlk hin
  refine v_lload_n C dX9_times_0 rfl rfl ?_
  refine v_lconst (v := 0) C dX9_times_1 (by decide) ?_
  refine v_lc_eq (tgt := 12) C dX9_times_2 dX9_times_3 (by decide) (fun c_2 => ?_) (fun c_2 => ?_)
  · refine v_lconst (v := 0) C dX9_times_12 (by decide) ?_
    exact v_lret C hr hlk dX9_times_13 (Nat.le_refl _) (Nat.le_refl _) ⟨by unfold tmM; rw [if_pos c_2], rfl⟩
  · refine v_lload_n C dX9_times_6 rfl rfl ?_
    refine v_lconst (v := 0) C dX9_times_7 (by decide) ?_
    refine v_lc_ne (tgt := 14) C dX9_times_8 dX9_times_9 (by decide) (fun c_8 => ?_) (fun c_8 => ?_)
    · refine v_lload_n C dX9_times_14 rfl rfl ?_
      refine v_ldc2 C dX9_times_15 g_kl_X9_68 ?_
      refine v_lc_eq (tgt := 40) C dX9_times_18 dX9_times_19 (by decide) (fun c_18 => ?_) (fun c_18 => ?_)
      · refine v_ldc2 C dX9_times_40 g_kl_X9_68 ?_
        refine v_goto (tgt := 49) C dX9_times_43 (by decide) ?_
        exact v_lret C hr hlk dX9_times_49 (Nat.le_refl _) (Nat.le_refl _) ⟨by unfold tmM; rw [if_neg c_2, if_neg c_8, if_pos c_18], rfl⟩
      · refine v_lload_n C dX9_times_22 rfl rfl ?_
        refine v_ldc2 C dX9_times_23 g_kl_X9_68 ?_
        refine v_lc_eq (tgt := 40) C dX9_times_26 dX9_times_27 (by decide) (fun c_26 => ?_) (fun c_26 => ?_)
        · refine v_ldc2 C dX9_times_40 g_kl_X9_68 ?_
          refine v_goto (tgt := 49) C dX9_times_43 (by decide) ?_
          exact v_lret C hr hlk dX9_times_49 (Nat.le_refl _) (Nat.le_refl _) ⟨by unfold tmM; rw [if_neg c_2, if_neg c_8, if_neg c_18, if_pos c_26], rfl⟩
        · refine v_lload_n C dX9_times_30 rfl rfl ?_
          refine v_ldc2 C dX9_times_31 g_kl_X9_76 ?_
          refine v_lload_n C dX9_times_34 rfl rfl ?_
          refine v_ldiv C dX9_times_35 (by assumption) ?_
          refine v_lc_le (tgt := 46) C dX9_times_36 dX9_times_37 (by decide) (fun c_36 => ?_) (fun c_36 => ?_)
          · refine v_lload_n C dX9_times_46 rfl rfl ?_
            refine v_lload_n C dX9_times_47 rfl rfl ?_
            refine v_lmul C dX9_times_48 ?_
            exact v_lret C hr hlk dX9_times_49 (Nat.le_refl _) (Nat.le_refl _) ⟨by unfold tmM; rw [if_neg c_2, if_neg c_8, if_neg c_18, if_neg c_26, if_pos c_36], rfl⟩
          · refine v_ldc2 C dX9_times_40 g_kl_X9_68 ?_
            refine v_goto (tgt := 49) C dX9_times_43 (by decide) ?_
            exact v_lret C hr hlk dX9_times_49 (Nat.le_refl _) (Nat.le_refl _) ⟨by unfold tmM; rw [if_neg c_2, if_neg c_8, if_neg c_18, if_neg c_26, if_neg c_36], rfl⟩
    · refine v_lconst (v := 0) C dX9_times_12 (by decide) ?_
      exact v_lret C hr hlk dX9_times_13 (Nat.le_refl _) (Nat.le_refl _) ⟨by unfold tmM; rw [if_neg c_2, if_pos c_8], rfl⟩

def inM (a : Int64) (b : Int64) (c9 : Int64) : Int32 := if a < b then ((0 : Int32)) else if c9 < a then ((0 : Int32)) else ((1 : Int32))
set_option maxHeartbeats 4000000 in
set_option maxRecDepth 100000 in
theorem m_in (l : Launch) (D : va_G) (B : Nat) (K : Nat → ClassId) (f : St) (a : Int64) (b : Int64) (c9 : Int64) : Kc l D B K yX9_in cX9_in 6 (some .boolean) 0 0 0 [.long a, .long b, .long c9] f (Qi_ D B (fun r f9 => r = inM a b c9 ∧ f9 = f)) := by
  refine v_met [(0, .long a), (2, .long b), (4, .long c9)] (by decide) (Nat.le_of_ble_eq_true rfl) rfl ?_
  intro p e s m args below meth c C hr hlk hin
  refine v_lload_n C dX9_in_0 rfl rfl ?_
  refine v_lload_n C dX9_in_1 rfl rfl ?_
  refine v_lc_lt (tgt := 17) C dX9_in_2 dX9_in_3 (by decide) (fun c_2 => ?_) (fun c_2 => ?_)
  · refine v_iconst (v := 0) C dX9_in_17 (by decide) ?_
    exact v_zret C hr hlk dX9_in_18 rfl (Nat.le_refl _) (Nat.le_refl _) ⟨by unfold inM; rw [if_pos c_2], rfl⟩
  · refine v_lload_n C dX9_in_6 rfl rfl ?_
    refine v_lload C dX9_in_7 rfl ?_
    refine v_lc_gt (tgt := 17) C dX9_in_9 dX9_in_10 (by decide) (fun c_9 => ?_) (fun c_9 => ?_)
    · refine v_iconst (v := 0) C dX9_in_17 (by decide) ?_
      exact v_zret C hr hlk dX9_in_18 rfl (Nat.le_refl _) (Nat.le_refl _) ⟨by unfold inM; rw [if_neg c_2, if_pos c_9], rfl⟩
    · refine v_iconst (v := 1) C dX9_in_13 (by decide) ?_
      refine v_goto (tgt := 18) C dX9_in_14 (by decide) ?_
      exact v_zret C hr hlk dX9_in_18 rfl (Nat.le_refl _) (Nat.le_refl _) ⟨by unfold inM; rw [if_neg c_2, if_neg c_9], rfl⟩

def loM (a : Int64) (b : Int64) (by_ : Int64) : Int64 := if (0 : Int64) ≤ (((a - a / by_ * by_) - (b - b / by_ * by_)) - ((a - a / by_ * by_) - (b - b / by_ * by_)) / by_ * by_) then (((a - a / by_ * by_) - (b - b / by_ * by_)) - ((a - a / by_ * by_) - (b - b / by_ * by_)) / by_ * by_) else ((((a - a / by_ * by_) - (b - b / by_ * by_)) - ((a - a / by_ * by_) - (b - b / by_ * by_)) / by_ * by_) + by_)
set_option maxHeartbeats 4000000 in
set_option maxRecDepth 100000 in
theorem m_leftOver (l : Launch) (D : va_G) (B : Nat) (K : Nat → ClassId) (f : St) (a : Int64) (b : Int64) (by_ : Int64) (hby : ¬ by_ = 0) : Kc l D B K yX9_leftOver cX9_leftOver 12 (some .long) 0 0 0 [.long a, .long b, .long by_] f (Ql_ D B (fun r f9 => r = loM a b by_ ∧ f9 = f)) := by
  refine v_met [(0, .long a), (2, .long b), (4, .long by_)] (by decide) (Nat.le_of_ble_eq_true rfl) rfl ?_
  intro p e s m args below meth c C hr hlk hin
  refine v_lload_n C dX9_leftOver_0 rfl rfl ?_
  refine v_lload C dX9_leftOver_1 rfl ?_
  refine v_lrem C dX9_leftOver_3 (by assumption) ?_
  refine v_lstore C dX9_leftOver_4 (by decide) rfl ?_
  refine v_lload_n C dX9_leftOver_6 rfl rfl ?_
  refine v_lload C dX9_leftOver_7 rfl ?_
  refine v_lrem C dX9_leftOver_9 (by assumption) ?_
  refine v_lstore C dX9_leftOver_10 (by decide) rfl ?_
  refine v_lload C dX9_leftOver_12 rfl ?_
  refine v_lload C dX9_leftOver_14 rfl ?_
  refine v_lsub C dX9_leftOver_16 ?_
  refine v_lload C dX9_leftOver_17 rfl ?_
  refine v_lrem C dX9_leftOver_19 (by assumption) ?_
  refine v_lstore C dX9_leftOver_20 (by decide) rfl ?_
  refine v_lload C dX9_leftOver_22 rfl ?_
  refine v_lconst (v := 0) C dX9_leftOver_24 (by decide) ?_
  refine v_lc_ge (tgt := 37) C dX9_leftOver_25 dX9_leftOver_26 (by decide) (fun c_25 => ?_) (fun c_25 => ?_)
  · refine v_lload C dX9_leftOver_37 rfl ?_
    exact v_lret C hr hlk dX9_leftOver_39 (Nat.le_refl _) (Nat.le_refl _) ⟨by unfold loM; rw [if_pos c_25], rfl⟩
  · refine v_lload C dX9_leftOver_29 rfl ?_
    refine v_lload C dX9_leftOver_31 rfl ?_
    refine v_ladd C dX9_leftOver_33 ?_
    refine v_goto (tgt := 39) C dX9_leftOver_34 (by decide) ?_
    exact v_lret C hr hlk dX9_leftOver_39 (Nat.le_refl _) (Nat.le_refl _) ⟨by unfold loM; rw [if_neg c_25], rfl⟩

