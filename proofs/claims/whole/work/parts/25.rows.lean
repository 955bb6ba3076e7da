/-! the program: making single ranges and back -/
theorem upn {f : St} {a b : Nat} {x : va_E} {y : Option va_E} (hb : f b = none) (ha : f a = some x) : va_up f b y a = some x := by
  rw [va_up_ne]
  · exact ha
  · intro e; subst e; rw [hb] at ha; cases ha
theorem ne_of_none {q : Nat → Nat} {f : St} {b : Nat} (hqs : ∀ j, j < 15 → ∃ x, f (q j) = some x) (hb : f b = none) : ∀ j, j < 15 → b ≠ q j := fun j hj e => by
  obtain ⟨x, hx⟩ := hqs j hj
  rw [e, hx] at hb; cases hb
def rowC (a b : Int64) (s : Int32) : Int64 × Int64 :=
  if s ≤ 0 then (if b ≤ a then (if quC (a - b) (-s).toInt64 < 0 then (-1, a + quC (a - b) (-s).toInt64 * s.toInt64) else if quC (a - b) (-s).toInt64 = 9223372036854775807 then (-1, a + quC (a - b) (-s).toInt64 * s.toInt64) else (quC (a - b) (-s).toInt64 + 1, a + quC (a - b) (-s).toInt64 * s.toInt64)) else (0, a))
  else (if a ≤ b then (if quC (b - a) s.toInt64 < 0 then (-1, a + quC (b - a) s.toInt64 * s.toInt64) else if quC (b - a) s.toInt64 = 9223372036854775807 then (-1, a + quC (b - a) s.toInt64 * s.toInt64) else (quC (b - a) s.toInt64 + 1, a + quC (b - a) s.toInt64 * s.toInt64)) else (0, a))
abbrev rowE (n : Nat) (k : Int32) (sz fi la : Int64) (s : Int32) : va_E := .inr (5, [.int (nI n), .int k, .int 1, .long sz, .long fi, .long la, .int s])
set_option maxHeartbeats 4000000 in
set_option maxRecDepth 100000 in
theorem c_addRow_full (l : Launch) (D : va_G) (B : Nat) (K : Nat → ClassId) (f : St) (q : Nat → Nat) (n na : Nat) (k : Int32) (a b : Int64) (s9 : Int32) (h0 : f (q 0) = some (.inr (6, [.ref (q 1), .ref (q 2), .ref (q 3), .ref (q 4), .ref (q 5), .ref (q 6), .int (nI n), .int (nI na)]))) (hn : n = 40) : Kc l D B K yX8_addRow cX8_addRow 11 ((some .int)) 4 1 7 [.ref (q 0), .int k, .long a, .long b, .int s9] f (Qi_ D B (fun r f9 => r = -104 ∧ f9 = f)) := by
  refine v_met [(0, .ref (q 0)), (1, .int k), (2, .long a), (4, .long b), (6, .int s9)] (by decide) (Nat.le_of_ble_eq_true rfl) rfl ?_
  intro p e s m args below meth c C hr hlk hin
  refine v_aload_n C dX8_addRow_0 rfl rfl ?_
  refine v_ci (r_V C (c_isFull_yes l D B K _ q n na h0 hn) dX8_addRow_1 h0 rfl g_ml_X8_56 g_im_yX8_isFull g_se_X8_yX8_isFull_yX8_isFull g_in_X8 g_cd_yX8_isFull (rn_le (by decide)) (by decide) rfl rfl hdn_yX8_isFull (Nat.le_of_ble_eq_true rfl) ⟨Nat.le_of_ble_eq_true rfl, Nat.le_of_ble_eq_true rfl⟩) (fun r_1 f_1 hp_1 => ?_)
  obtain ⟨rfl, rfl⟩ := hp_1
  refine v_if_eq (tgt := 10) C dX8_addRow_4 (by decide) (fun c_4 => absurd c_4 (by decide)) (fun _ => ?_)
  refine v_bipush (v := (-104)) C dX8_addRow_7 (by decide) ?_
  exact v_iret C hr hlk dX8_addRow_9 (Nat.le_of_ble_eq_true rfl) (Nat.le_of_ble_eq_true rfl) ⟨rfl, rfl⟩

set_option maxHeartbeats 4000000 in
set_option maxRecDepth 100000 in
theorem c_addRow_new (l : Launch) (D : va_G) (B : Nat) (K : Nat → ClassId) (f : St) (q : Nat → Nat) (n na : Nat) (g : Nat → Option Nat) (k : Int32) (a b : Int64) (s9 : Int32) (h0 : f (q 0) = some (.inr (6, [.ref (q 1), .ref (q 2), .ref (q 3), .ref (q 4), .ref (q 5), .ref (q 6), .int (nI n), .int (nI na)]))) (h4 : f (q 4) = some (.inl (K 3, 40, .inr (.inr (.inr (.inr (g))))))) (hq : ∀ i j, i < 15 → j < 15 → q i = q j → i = j) (hqs : ∀ j, j < 15 → ∃ x, f (q j) = some x) (hn : n < 40) : Kc l D B K yX8_addRow cX8_addRow 11 ((some .int)) 4 1 7 [.ref (q 0), .int k, .long a, .long b, .int s9] f (Qi_ D B (fun r f9 => r = nI n ∧ ∃ b9, f b9 = none ∧ f9 = addF K q (va_up f b9 (some (rowE n k (rowC a b s9).1 a (rowC a b s9).2 s9))) n na g b9)) := by
  refine v_met [(0, .ref (q 0)), (1, .int k), (2, .long a), (4, .long b), (6, .int s9)] (by decide) (Nat.le_of_ble_eq_true rfl) rfl ?_
  intro p e s m args below meth c C hr hlk hin
  by_cases hs : s9 ≤ 0
  · refine v_aload_n C dX8_addRow_0 rfl rfl ?_
    refine v_ci (r_V C (c_isFull_no l D B K _ q n na h0 hn) dX8_addRow_1 h0 rfl g_ml_X8_56 g_im_yX8_isFull g_se_X8_yX8_isFull_yX8_isFull g_in_X8 g_cd_yX8_isFull (rn_le (by decide)) (by decide) rfl rfl hdn_yX8_isFull (Nat.le_of_ble_eq_true rfl) ⟨Nat.le_of_ble_eq_true rfl, Nat.le_of_ble_eq_true rfl⟩) (fun r_1 f_1 hp_1 => ?_)
    obtain ⟨rfl, rfl⟩ := hp_1
    refine v_if_eq (tgt := 10) C dX8_addRow_4 (by decide) (fun _ => ?_) (fun c_4 => absurd c_4 (by decide))
    refine v_iload C dX8_addRow_10 rfl ?_
    refine v_if_le (tgt := 30) C dX8_addRow_12 (by decide) (fun c_12 => ?_) (fun c_12 => absurd hs c_12)
    refine v_lload C dX8_addRow_30 rfl ?_
    refine v_lload_n C dX8_addRow_32 rfl rfl ?_
    refine v_lc_le (tgt := 41) C dX8_addRow_33 dX8_addRow_34 (by decide) (fun c_33 => ?_) (fun c_33 => ?_)
    · refine v_iconst (v := 0) C dX8_addRow_41 (by decide) ?_
      refine v_istore C dX8_addRow_42 (by decide) rfl ?_
      refine v_iload C dX8_addRow_44 rfl ?_
      refine v_if_eq (tgt := 71) C dX8_addRow_46 (by decide) (fun _ => ?_) (fun c_46 => absurd c_46 (by decide))
      refine v_iload C dX8_addRow_71 rfl ?_
      refine v_if_le (tgt := 89) C dX8_addRow_73 (by decide) (fun c_73 => ?_) (fun c_73 => absurd hs c_73)
      refine v_lload_n C dX8_addRow_89 rfl rfl ?_
      refine v_lload C dX8_addRow_90 rfl ?_
      refine v_lsub C dX8_addRow_92 ?_
      refine v_iload C dX8_addRow_93 rfl ?_
      refine v_ineg C dX8_addRow_95 ?_
      refine v_i2l C dX8_addRow_96 ?_
      refine v_cl (r_S C (c_quotient l D B K _ _ _) dX8_addRow_97 g_ml_X8_203 g_st_yX8_quotient g_in_X8 g_cd_yX8_quotient (rn_le (by decide)) (by decide) rfl hdn_yX8_quotient (Nat.le_of_ble_eq_true rfl) ⟨Nat.le_of_ble_eq_true rfl, Nat.le_of_ble_eq_true rfl⟩) (fun r_97 f_97 hp_97 => ?_)
      obtain ⟨rfl, rfl⟩ := hp_97
      refine v_lstore C dX8_addRow_100 (by decide) rfl ?_
      refine v_lload C dX8_addRow_102 rfl ?_
      refine v_lconst (v := 0) C dX8_addRow_104 (by decide) ?_
      refine v_lc_lt (tgt := 118) C dX8_addRow_105 dX8_addRow_106 (by decide) (fun c_105 => ?_) (fun c_105 => ?_)
      · refine v_iconst (v := 1) C dX8_addRow_118 (by decide) ?_
        refine v_goto (tgt := 123) C dX8_addRow_119 (by decide) ?_
        refine v_istore C dX8_addRow_123 (by decide) rfl ?_
        refine v_aload_n C dX8_addRow_125 rfl rfl ?_
        refine v_new (ci := 5) (fs := [.int 0, .int 0, .int 0, .long 0, .long 0, .long 0, .int 0]) C dX8_addRow_126 rfl in_X6 tyX6 tyX6_ok g_cl_X8_198 g_ins_X6 g_in_X6 (by decide) (Nat.le_of_ble_eq_true rfl) (Nat.le_of_ble_eq_true rfl) (fun b8 hb8 => ?_)
        refine v_dup C dX8_addRow_129 rfl ?_
        refine v_aload_n C dX8_addRow_130 rfl rfl ?_
        refine v_get C dX8_addRow_131 6 (upn hb8 h0) rfl in_X8 (by decide) g_fl_X8_40 (fun _ h9 => h9) rfl ?_
        refine v_iload_n C dX8_addRow_134 rfl rfl ?_
        refine v_lload_n C dX8_addRow_135 rfl rfl ?_
        refine v_lload_n C dX8_addRow_136 rfl rfl ?_
        refine v_lload C dX8_addRow_137 rfl ?_
        refine v_iload C dX8_addRow_139 rfl ?_
        refine v_i2l C dX8_addRow_141 ?_
        refine v_lmul C dX8_addRow_142 ?_
        refine v_ladd C dX8_addRow_143 ?_
        refine v_iload C dX8_addRow_144 rfl ?_
        refine v_iload C dX8_addRow_146 rfl ?_
        refine v_if_eq (tgt := 157) C dX8_addRow_148 (by decide) (fun c_148 => absurd c_148 (by decide)) (fun _ => ?_)
        refine v_ldc2 C dX8_addRow_151 g_kl_X8_79 ?_
        refine v_goto (tgt := 161) C dX8_addRow_154 (by decide) ?_
        refine v_cv (r_I C (c_Row_init l D B K _ b8 _ _ _ _ _ _ _ _ _ _ _ _ _ (va_up_self _ _ _)) dX8_addRow_161 g_ml_X8_200 g_im_yX6_init g_in_X6 g_cd_yX6_init rfl (rn_le (by decide)) (by decide) rfl hdn_yX6_init (Nat.le_of_ble_eq_true rfl) ⟨Nat.le_of_ble_eq_true rfl, Nat.le_of_ble_eq_true rfl⟩) (fun f_161 hp_161 => ?_)
        rw [bx_uu] at hp_161
        subst hp_161
        refine v_ci (r_V C (c_add_X6 l D B K _ q n na g b8 _ _ _ _ _ _ _ (upn hb8 h0) (upn hb8 h4) hn hq (ne_of_none hqs hb8) (va_up_self _ _ _)) dX8_addRow_164 (upn hb8 h0) rfl g_ml_X8_65 g_im_yX8_add g_se_X8_yX8_add_yX8_add g_in_X8 g_cd_yX8_add (rn_le (by decide)) (by decide) rfl rfl hdn_yX8_add (Nat.le_of_ble_eq_true rfl) ⟨Nat.le_of_ble_eq_true rfl, Nat.le_of_ble_eq_true rfl⟩) (fun r_164 f_164 hp_164 => ?_)
        obtain ⟨rfl, rfl⟩ := hp_164
        exact v_iret C hr hlk dX8_addRow_167 (Nat.le_of_ble_eq_true rfl) (Nat.le_of_ble_eq_true rfl) ⟨rfl, b8, hb8, by unfold rowC; rw [if_pos hs, if_pos c_33, if_pos c_105]⟩
      · refine v_lload C dX8_addRow_109 rfl ?_
        refine v_ldc2 C dX8_addRow_111 g_kl_X8_141 ?_
        refine v_lc_ne (tgt := 122) C dX8_addRow_114 dX8_addRow_115 (by decide) (fun c_114 => ?_) (fun c_114 => ?_)
        · refine v_iconst (v := 0) C dX8_addRow_122 (by decide) ?_
          refine v_istore C dX8_addRow_123 (by decide) rfl ?_
          refine v_aload_n C dX8_addRow_125 rfl rfl ?_
          refine v_new (ci := 5) (fs := [.int 0, .int 0, .int 0, .long 0, .long 0, .long 0, .int 0]) C dX8_addRow_126 rfl in_X6 tyX6 tyX6_ok g_cl_X8_198 g_ins_X6 g_in_X6 (by decide) (Nat.le_of_ble_eq_true rfl) (Nat.le_of_ble_eq_true rfl) (fun b8 hb8 => ?_)
          refine v_dup C dX8_addRow_129 rfl ?_
          refine v_aload_n C dX8_addRow_130 rfl rfl ?_
          refine v_get C dX8_addRow_131 6 (upn hb8 h0) rfl in_X8 (by decide) g_fl_X8_40 (fun _ h9 => h9) rfl ?_
          refine v_iload_n C dX8_addRow_134 rfl rfl ?_
          refine v_lload_n C dX8_addRow_135 rfl rfl ?_
          refine v_lload_n C dX8_addRow_136 rfl rfl ?_
          refine v_lload C dX8_addRow_137 rfl ?_
          refine v_iload C dX8_addRow_139 rfl ?_
          refine v_i2l C dX8_addRow_141 ?_
          refine v_lmul C dX8_addRow_142 ?_
          refine v_ladd C dX8_addRow_143 ?_
          refine v_iload C dX8_addRow_144 rfl ?_
          refine v_iload C dX8_addRow_146 rfl ?_
          refine v_if_eq (tgt := 157) C dX8_addRow_148 (by decide) (fun _ => ?_) (fun c_148 => absurd c_148 (by decide))
          refine v_lload C dX8_addRow_157 rfl ?_
          refine v_lconst (v := 1) C dX8_addRow_159 (by decide) ?_
          refine v_ladd C dX8_addRow_160 ?_
          refine v_cv (r_I C (c_Row_init l D B K _ b8 _ _ _ _ _ _ _ _ _ _ _ _ _ (va_up_self _ _ _)) dX8_addRow_161 g_ml_X8_200 g_im_yX6_init g_in_X6 g_cd_yX6_init rfl (rn_le (by decide)) (by decide) rfl hdn_yX6_init (Nat.le_of_ble_eq_true rfl) ⟨Nat.le_of_ble_eq_true rfl, Nat.le_of_ble_eq_true rfl⟩) (fun f_161 hp_161 => ?_)
          rw [bx_uu] at hp_161
          subst hp_161
          refine v_ci (r_V C (c_add_X6 l D B K _ q n na g b8 _ _ _ _ _ _ _ (upn hb8 h0) (upn hb8 h4) hn hq (ne_of_none hqs hb8) (va_up_self _ _ _)) dX8_addRow_164 (upn hb8 h0) rfl g_ml_X8_65 g_im_yX8_add g_se_X8_yX8_add_yX8_add g_in_X8 g_cd_yX8_add (rn_le (by decide)) (by decide) rfl rfl hdn_yX8_add (Nat.le_of_ble_eq_true rfl) ⟨Nat.le_of_ble_eq_true rfl, Nat.le_of_ble_eq_true rfl⟩) (fun r_164 f_164 hp_164 => ?_)
          obtain ⟨rfl, rfl⟩ := hp_164
          exact v_iret C hr hlk dX8_addRow_167 (Nat.le_of_ble_eq_true rfl) (Nat.le_of_ble_eq_true rfl) ⟨rfl, b8, hb8, by unfold rowC; rw [if_pos hs, if_pos c_33, if_neg c_105, if_neg c_114]⟩
        · refine v_iconst (v := 1) C dX8_addRow_118 (by decide) ?_
          refine v_goto (tgt := 123) C dX8_addRow_119 (by decide) ?_
          refine v_istore C dX8_addRow_123 (by decide) rfl ?_
          refine v_aload_n C dX8_addRow_125 rfl rfl ?_
          refine v_new (ci := 5) (fs := [.int 0, .int 0, .int 0, .long 0, .long 0, .long 0, .int 0]) C dX8_addRow_126 rfl in_X6 tyX6 tyX6_ok g_cl_X8_198 g_ins_X6 g_in_X6 (by decide) (Nat.le_of_ble_eq_true rfl) (Nat.le_of_ble_eq_true rfl) (fun b8 hb8 => ?_)
          refine v_dup C dX8_addRow_129 rfl ?_
          refine v_aload_n C dX8_addRow_130 rfl rfl ?_
          refine v_get C dX8_addRow_131 6 (upn hb8 h0) rfl in_X8 (by decide) g_fl_X8_40 (fun _ h9 => h9) rfl ?_
          refine v_iload_n C dX8_addRow_134 rfl rfl ?_
          refine v_lload_n C dX8_addRow_135 rfl rfl ?_
          refine v_lload_n C dX8_addRow_136 rfl rfl ?_
          refine v_lload C dX8_addRow_137 rfl ?_
          refine v_iload C dX8_addRow_139 rfl ?_
          refine v_i2l C dX8_addRow_141 ?_
          refine v_lmul C dX8_addRow_142 ?_
          refine v_ladd C dX8_addRow_143 ?_
          refine v_iload C dX8_addRow_144 rfl ?_
          refine v_iload C dX8_addRow_146 rfl ?_
          refine v_if_eq (tgt := 157) C dX8_addRow_148 (by decide) (fun c_148 => absurd c_148 (by decide)) (fun _ => ?_)
          refine v_ldc2 C dX8_addRow_151 g_kl_X8_79 ?_
          refine v_goto (tgt := 161) C dX8_addRow_154 (by decide) ?_
          refine v_cv (r_I C (c_Row_init l D B K _ b8 _ _ _ _ _ _ _ _ _ _ _ _ _ (va_up_self _ _ _)) dX8_addRow_161 g_ml_X8_200 g_im_yX6_init g_in_X6 g_cd_yX6_init rfl (rn_le (by decide)) (by decide) rfl hdn_yX6_init (Nat.le_of_ble_eq_true rfl) ⟨Nat.le_of_ble_eq_true rfl, Nat.le_of_ble_eq_true rfl⟩) (fun f_161 hp_161 => ?_)
          rw [bx_uu] at hp_161
          subst hp_161
          refine v_ci (r_V C (c_add_X6 l D B K _ q n na g b8 _ _ _ _ _ _ _ (upn hb8 h0) (upn hb8 h4) hn hq (ne_of_none hqs hb8) (va_up_self _ _ _)) dX8_addRow_164 (upn hb8 h0) rfl g_ml_X8_65 g_im_yX8_add g_se_X8_yX8_add_yX8_add g_in_X8 g_cd_yX8_add (rn_le (by decide)) (by decide) rfl rfl hdn_yX8_add (Nat.le_of_ble_eq_true rfl) ⟨Nat.le_of_ble_eq_true rfl, Nat.le_of_ble_eq_true rfl⟩) (fun r_164 f_164 hp_164 => ?_)
          obtain ⟨rfl, rfl⟩ := hp_164
          exact v_iret C hr hlk dX8_addRow_167 (Nat.le_of_ble_eq_true rfl) (Nat.le_of_ble_eq_true rfl) ⟨rfl, b8, hb8, by unfold rowC; rw [if_pos hs, if_pos c_33, if_neg c_105, if_pos c_114]⟩
    · refine v_iconst (v := 1) C dX8_addRow_37 (by decide) ?_
      refine v_goto (tgt := 42) C dX8_addRow_38 (by decide) ?_
      refine v_istore C dX8_addRow_42 (by decide) rfl ?_
      refine v_iload C dX8_addRow_44 rfl ?_
      refine v_if_eq (tgt := 71) C dX8_addRow_46 (by decide) (fun c_46 => absurd c_46 (by decide)) (fun _ => ?_)
      refine v_aload_n C dX8_addRow_49 rfl rfl ?_
      refine v_new (ci := 5) (fs := [.int 0, .int 0, .int 0, .long 0, .long 0, .long 0, .int 0]) C dX8_addRow_50 rfl in_X6 tyX6 tyX6_ok g_cl_X8_198 g_ins_X6 g_in_X6 (by decide) (Nat.le_of_ble_eq_true rfl) (Nat.le_of_ble_eq_true rfl) (fun b7 hb7 => ?_)
      refine v_dup C dX8_addRow_53 rfl ?_
      refine v_aload_n C dX8_addRow_54 rfl rfl ?_
      refine v_get C dX8_addRow_55 6 (upn hb7 h0) rfl in_X8 (by decide) g_fl_X8_40 (fun _ h9 => h9) rfl ?_
      refine v_iload_n C dX8_addRow_58 rfl rfl ?_
      refine v_lload_n C dX8_addRow_59 rfl rfl ?_
      refine v_lload_n C dX8_addRow_60 rfl rfl ?_
      refine v_iload C dX8_addRow_61 rfl ?_
      refine v_lconst (v := 0) C dX8_addRow_63 (by decide) ?_
      refine v_cv (r_I C (c_Row_init l D B K _ b7 _ _ _ _ _ _ _ _ _ _ _ _ _ (va_up_self _ _ _)) dX8_addRow_64 g_ml_X8_200 g_im_yX6_init g_in_X6 g_cd_yX6_init rfl (rn_le (by decide)) (by decide) rfl hdn_yX6_init (Nat.le_of_ble_eq_true rfl) ⟨Nat.le_of_ble_eq_true rfl, Nat.le_of_ble_eq_true rfl⟩) (fun f_64 hp_64 => ?_)
      rw [bx_uu] at hp_64
      subst hp_64
      refine v_ci (r_V C (c_add_X6 l D B K _ q n na g b7 _ _ _ _ _ _ _ (upn hb7 h0) (upn hb7 h4) hn hq (ne_of_none hqs hb7) (va_up_self _ _ _)) dX8_addRow_67 (upn hb7 h0) rfl g_ml_X8_65 g_im_yX8_add g_se_X8_yX8_add_yX8_add g_in_X8 g_cd_yX8_add (rn_le (by decide)) (by decide) rfl rfl hdn_yX8_add (Nat.le_of_ble_eq_true rfl) ⟨Nat.le_of_ble_eq_true rfl, Nat.le_of_ble_eq_true rfl⟩) (fun r_67 f_67 hp_67 => ?_)
      obtain ⟨rfl, rfl⟩ := hp_67
      exact v_iret C hr hlk dX8_addRow_70 (Nat.le_of_ble_eq_true rfl) (Nat.le_of_ble_eq_true rfl) ⟨rfl, b7, hb7, by unfold rowC; rw [if_pos hs, if_neg c_33]⟩
  · refine v_aload_n C dX8_addRow_0 rfl rfl ?_
    refine v_ci (r_V C (c_isFull_no l D B K _ q n na h0 hn) dX8_addRow_1 h0 rfl g_ml_X8_56 g_im_yX8_isFull g_se_X8_yX8_isFull_yX8_isFull g_in_X8 g_cd_yX8_isFull (rn_le (by decide)) (by decide) rfl rfl hdn_yX8_isFull (Nat.le_of_ble_eq_true rfl) ⟨Nat.le_of_ble_eq_true rfl, Nat.le_of_ble_eq_true rfl⟩) (fun r_1 f_1 hp_1 => ?_)
    obtain ⟨rfl, rfl⟩ := hp_1
    refine v_if_eq (tgt := 10) C dX8_addRow_4 (by decide) (fun _ => ?_) (fun c_4 => absurd c_4 (by decide))
    refine v_iload C dX8_addRow_10 rfl ?_
    refine v_if_le (tgt := 30) C dX8_addRow_12 (by decide) (fun c_12 => absurd c_12 hs) (fun c_12 => ?_)
    refine v_lload C dX8_addRow_15 rfl ?_
    refine v_lload_n C dX8_addRow_17 rfl rfl ?_
    refine v_lc_ge (tgt := 26) C dX8_addRow_18 dX8_addRow_19 (by decide) (fun c_18 => ?_) (fun c_18 => ?_)
    · refine v_iconst (v := 0) C dX8_addRow_26 (by decide) ?_
      refine v_goto (tgt := 42) C dX8_addRow_27 (by decide) ?_
      refine v_istore C dX8_addRow_42 (by decide) rfl ?_
      refine v_iload C dX8_addRow_44 rfl ?_
      refine v_if_eq (tgt := 71) C dX8_addRow_46 (by decide) (fun _ => ?_) (fun c_46 => absurd c_46 (by decide))
      refine v_iload C dX8_addRow_71 rfl ?_
      refine v_if_le (tgt := 89) C dX8_addRow_73 (by decide) (fun c_73 => absurd c_73 hs) (fun c_73 => ?_)
      refine v_lload C dX8_addRow_76 rfl ?_
      refine v_lload_n C dX8_addRow_78 rfl rfl ?_
      refine v_lsub C dX8_addRow_79 ?_
      refine v_iload C dX8_addRow_80 rfl ?_
      refine v_i2l C dX8_addRow_82 ?_
      refine v_cl (r_S C (c_quotient l D B K _ _ _) dX8_addRow_83 g_ml_X8_203 g_st_yX8_quotient g_in_X8 g_cd_yX8_quotient (rn_le (by decide)) (by decide) rfl hdn_yX8_quotient (Nat.le_of_ble_eq_true rfl) ⟨Nat.le_of_ble_eq_true rfl, Nat.le_of_ble_eq_true rfl⟩) (fun r_83 f_83 hp_83 => ?_)
      obtain ⟨rfl, rfl⟩ := hp_83
      refine v_goto (tgt := 100) C dX8_addRow_86 (by decide) ?_
      refine v_lstore C dX8_addRow_100 (by decide) rfl ?_
      refine v_lload C dX8_addRow_102 rfl ?_
      refine v_lconst (v := 0) C dX8_addRow_104 (by decide) ?_
      refine v_lc_lt (tgt := 118) C dX8_addRow_105 dX8_addRow_106 (by decide) (fun c_105 => ?_) (fun c_105 => ?_)
      · refine v_iconst (v := 1) C dX8_addRow_118 (by decide) ?_
        refine v_goto (tgt := 123) C dX8_addRow_119 (by decide) ?_
        refine v_istore C dX8_addRow_123 (by decide) rfl ?_
        refine v_aload_n C dX8_addRow_125 rfl rfl ?_
        refine v_new (ci := 5) (fs := [.int 0, .int 0, .int 0, .long 0, .long 0, .long 0, .int 0]) C dX8_addRow_126 rfl in_X6 tyX6 tyX6_ok g_cl_X8_198 g_ins_X6 g_in_X6 (by decide) (Nat.le_of_ble_eq_true rfl) (Nat.le_of_ble_eq_true rfl) (fun b8 hb8 => ?_)
        refine v_dup C dX8_addRow_129 rfl ?_
        refine v_aload_n C dX8_addRow_130 rfl rfl ?_
        refine v_get C dX8_addRow_131 6 (upn hb8 h0) rfl in_X8 (by decide) g_fl_X8_40 (fun _ h9 => h9) rfl ?_
        refine v_iload_n C dX8_addRow_134 rfl rfl ?_
        refine v_lload_n C dX8_addRow_135 rfl rfl ?_
        refine v_lload_n C dX8_addRow_136 rfl rfl ?_
        refine v_lload C dX8_addRow_137 rfl ?_
        refine v_iload C dX8_addRow_139 rfl ?_
        refine v_i2l C dX8_addRow_141 ?_
        refine v_lmul C dX8_addRow_142 ?_
        refine v_ladd C dX8_addRow_143 ?_
        refine v_iload C dX8_addRow_144 rfl ?_
        refine v_iload C dX8_addRow_146 rfl ?_
        refine v_if_eq (tgt := 157) C dX8_addRow_148 (by decide) (fun c_148 => absurd c_148 (by decide)) (fun _ => ?_)
        refine v_ldc2 C dX8_addRow_151 g_kl_X8_79 ?_
        refine v_goto (tgt := 161) C dX8_addRow_154 (by decide) ?_
        refine v_cv (r_I C (c_Row_init l D B K _ b8 _ _ _ _ _ _ _ _ _ _ _ _ _ (va_up_self _ _ _)) dX8_addRow_161 g_ml_X8_200 g_im_yX6_init g_in_X6 g_cd_yX6_init rfl (rn_le (by decide)) (by decide) rfl hdn_yX6_init (Nat.le_of_ble_eq_true rfl) ⟨Nat.le_of_ble_eq_true rfl, Nat.le_of_ble_eq_true rfl⟩) (fun f_161 hp_161 => ?_)
        rw [bx_uu] at hp_161
        subst hp_161
        refine v_ci (r_V C (c_add_X6 l D B K _ q n na g b8 _ _ _ _ _ _ _ (upn hb8 h0) (upn hb8 h4) hn hq (ne_of_none hqs hb8) (va_up_self _ _ _)) dX8_addRow_164 (upn hb8 h0) rfl g_ml_X8_65 g_im_yX8_add g_se_X8_yX8_add_yX8_add g_in_X8 g_cd_yX8_add (rn_le (by decide)) (by decide) rfl rfl hdn_yX8_add (Nat.le_of_ble_eq_true rfl) ⟨Nat.le_of_ble_eq_true rfl, Nat.le_of_ble_eq_true rfl⟩) (fun r_164 f_164 hp_164 => ?_)
        obtain ⟨rfl, rfl⟩ := hp_164
        exact v_iret C hr hlk dX8_addRow_167 (Nat.le_of_ble_eq_true rfl) (Nat.le_of_ble_eq_true rfl) ⟨rfl, b8, hb8, by unfold rowC; rw [if_neg hs, if_pos c_18, if_pos c_105]⟩
      · refine v_lload C dX8_addRow_109 rfl ?_
        refine v_ldc2 C dX8_addRow_111 g_kl_X8_141 ?_
        refine v_lc_ne (tgt := 122) C dX8_addRow_114 dX8_addRow_115 (by decide) (fun c_114 => ?_) (fun c_114 => ?_)
        · refine v_iconst (v := 0) C dX8_addRow_122 (by decide) ?_
          refine v_istore C dX8_addRow_123 (by decide) rfl ?_
          refine v_aload_n C dX8_addRow_125 rfl rfl ?_
          refine v_new (ci := 5) (fs := [.int 0, .int 0, .int 0, .long 0, .long 0, .long 0, .int 0]) C dX8_addRow_126 rfl in_X6 tyX6 tyX6_ok g_cl_X8_198 g_ins_X6 g_in_X6 (by decide) (Nat.le_of_ble_eq_true rfl) (Nat.le_of_ble_eq_true rfl) (fun b8 hb8 => ?_)
          refine v_dup C dX8_addRow_129 rfl ?_
          refine v_aload_n C dX8_addRow_130 rfl rfl ?_
          refine v_get C dX8_addRow_131 6 (upn hb8 h0) rfl in_X8 (by decide) g_fl_X8_40 (fun _ h9 => h9) rfl ?_
          refine v_iload_n C dX8_addRow_134 rfl rfl ?_
          refine v_lload_n C dX8_addRow_135 rfl rfl ?_
          refine v_lload_n C dX8_addRow_136 rfl rfl ?_
          refine v_lload C dX8_addRow_137 rfl ?_
          refine v_iload C dX8_addRow_139 rfl ?_
          refine v_i2l C dX8_addRow_141 ?_
          refine v_lmul C dX8_addRow_142 ?_
          refine v_ladd C dX8_addRow_143 ?_
          refine v_iload C dX8_addRow_144 rfl ?_
          refine v_iload C dX8_addRow_146 rfl ?_
          refine v_if_eq (tgt := 157) C dX8_addRow_148 (by decide) (fun _ => ?_) (fun c_148 => absurd c_148 (by decide))
          refine v_lload C dX8_addRow_157 rfl ?_
          refine v_lconst (v := 1) C dX8_addRow_159 (by decide) ?_
          refine v_ladd C dX8_addRow_160 ?_
          refine v_cv (r_I C (c_Row_init l D B K _ b8 _ _ _ _ _ _ _ _ _ _ _ _ _ (va_up_self _ _ _)) dX8_addRow_161 g_ml_X8_200 g_im_yX6_init g_in_X6 g_cd_yX6_init rfl (rn_le (by decide)) (by decide) rfl hdn_yX6_init (Nat.le_of_ble_eq_true rfl) ⟨Nat.le_of_ble_eq_true rfl, Nat.le_of_ble_eq_true rfl⟩) (fun f_161 hp_161 => ?_)
          rw [bx_uu] at hp_161
          subst hp_161
          refine v_ci (r_V C (c_add_X6 l D B K _ q n na g b8 _ _ _ _ _ _ _ (upn hb8 h0) (upn hb8 h4) hn hq (ne_of_none hqs hb8) (va_up_self _ _ _)) dX8_addRow_164 (upn hb8 h0) rfl g_ml_X8_65 g_im_yX8_add g_se_X8_yX8_add_yX8_add g_in_X8 g_cd_yX8_add (rn_le (by decide)) (by decide) rfl rfl hdn_yX8_add (Nat.le_of_ble_eq_true rfl) ⟨Nat.le_of_ble_eq_true rfl, Nat.le_of_ble_eq_true rfl⟩) (fun r_164 f_164 hp_164 => ?_)
          obtain ⟨rfl, rfl⟩ := hp_164
          exact v_iret C hr hlk dX8_addRow_167 (Nat.le_of_ble_eq_true rfl) (Nat.le_of_ble_eq_true rfl) ⟨rfl, b8, hb8, by unfold rowC; rw [if_neg hs, if_pos c_18, if_neg c_105, if_neg c_114]⟩
        · refine v_iconst (v := 1) C dX8_addRow_118 (by decide) ?_
          refine v_goto (tgt := 123) C dX8_addRow_119 (by decide) ?_
          refine v_istore C dX8_addRow_123 (by decide) rfl ?_
          refine v_aload_n C dX8_addRow_125 rfl rfl ?_
          refine v_new (ci := 5) (fs := [.int 0, .int 0, .int 0, .long 0, .long 0, .long 0, .int 0]) C dX8_addRow_126 rfl in_X6 tyX6 tyX6_ok g_cl_X8_198 g_ins_X6 g_in_X6 (by decide) (Nat.le_of_ble_eq_true rfl) (Nat.le_of_ble_eq_true rfl) (fun b8 hb8 => ?_)
          refine v_dup C dX8_addRow_129 rfl ?_
          refine v_aload_n C dX8_addRow_130 rfl rfl ?_
          refine v_get C dX8_addRow_131 6 (upn hb8 h0) rfl in_X8 (by decide) g_fl_X8_40 (fun _ h9 => h9) rfl ?_
          refine v_iload_n C dX8_addRow_134 rfl rfl ?_
          refine v_lload_n C dX8_addRow_135 rfl rfl ?_
          refine v_lload_n C dX8_addRow_136 rfl rfl ?_
          refine v_lload C dX8_addRow_137 rfl ?_
          refine v_iload C dX8_addRow_139 rfl ?_
          refine v_i2l C dX8_addRow_141 ?_
          refine v_lmul C dX8_addRow_142 ?_
          refine v_ladd C dX8_addRow_143 ?_
          refine v_iload C dX8_addRow_144 rfl ?_
          refine v_iload C dX8_addRow_146 rfl ?_
          refine v_if_eq (tgt := 157) C dX8_addRow_148 (by decide) (fun c_148 => absurd c_148 (by decide)) (fun _ => ?_)
          refine v_ldc2 C dX8_addRow_151 g_kl_X8_79 ?_
          refine v_goto (tgt := 161) C dX8_addRow_154 (by decide) ?_
          refine v_cv (r_I C (c_Row_init l D B K _ b8 _ _ _ _ _ _ _ _ _ _ _ _ _ (va_up_self _ _ _)) dX8_addRow_161 g_ml_X8_200 g_im_yX6_init g_in_X6 g_cd_yX6_init rfl (rn_le (by decide)) (by decide) rfl hdn_yX6_init (Nat.le_of_ble_eq_true rfl) ⟨Nat.le_of_ble_eq_true rfl, Nat.le_of_ble_eq_true rfl⟩) (fun f_161 hp_161 => ?_)
          rw [bx_uu] at hp_161
          subst hp_161
          refine v_ci (r_V C (c_add_X6 l D B K _ q n na g b8 _ _ _ _ _ _ _ (upn hb8 h0) (upn hb8 h4) hn hq (ne_of_none hqs hb8) (va_up_self _ _ _)) dX8_addRow_164 (upn hb8 h0) rfl g_ml_X8_65 g_im_yX8_add g_se_X8_yX8_add_yX8_add g_in_X8 g_cd_yX8_add (rn_le (by decide)) (by decide) rfl rfl hdn_yX8_add (Nat.le_of_ble_eq_true rfl) ⟨Nat.le_of_ble_eq_true rfl, Nat.le_of_ble_eq_true rfl⟩) (fun r_164 f_164 hp_164 => ?_)
          obtain ⟨rfl, rfl⟩ := hp_164
          exact v_iret C hr hlk dX8_addRow_167 (Nat.le_of_ble_eq_true rfl) (Nat.le_of_ble_eq_true rfl) ⟨rfl, b8, hb8, by unfold rowC; rw [if_neg hs, if_pos c_18, if_neg c_105, if_pos c_114]⟩
    · refine v_iconst (v := 1) C dX8_addRow_22 (by decide) ?_
      refine v_goto (tgt := 42) C dX8_addRow_23 (by decide) ?_
      refine v_istore C dX8_addRow_42 (by decide) rfl ?_
      refine v_iload C dX8_addRow_44 rfl ?_
      refine v_if_eq (tgt := 71) C dX8_addRow_46 (by decide) (fun c_46 => absurd c_46 (by decide)) (fun _ => ?_)
      refine v_aload_n C dX8_addRow_49 rfl rfl ?_
      refine v_new (ci := 5) (fs := [.int 0, .int 0, .int 0, .long 0, .long 0, .long 0, .int 0]) C dX8_addRow_50 rfl in_X6 tyX6 tyX6_ok g_cl_X8_198 g_ins_X6 g_in_X6 (by decide) (Nat.le_of_ble_eq_true rfl) (Nat.le_of_ble_eq_true rfl) (fun b7 hb7 => ?_)
      refine v_dup C dX8_addRow_53 rfl ?_
      refine v_aload_n C dX8_addRow_54 rfl rfl ?_
      refine v_get C dX8_addRow_55 6 (upn hb7 h0) rfl in_X8 (by decide) g_fl_X8_40 (fun _ h9 => h9) rfl ?_
      refine v_iload_n C dX8_addRow_58 rfl rfl ?_
      refine v_lload_n C dX8_addRow_59 rfl rfl ?_
      refine v_lload_n C dX8_addRow_60 rfl rfl ?_
      refine v_iload C dX8_addRow_61 rfl ?_
      refine v_lconst (v := 0) C dX8_addRow_63 (by decide) ?_
      refine v_cv (r_I C (c_Row_init l D B K _ b7 _ _ _ _ _ _ _ _ _ _ _ _ _ (va_up_self _ _ _)) dX8_addRow_64 g_ml_X8_200 g_im_yX6_init g_in_X6 g_cd_yX6_init rfl (rn_le (by decide)) (by decide) rfl hdn_yX6_init (Nat.le_of_ble_eq_true rfl) ⟨Nat.le_of_ble_eq_true rfl, Nat.le_of_ble_eq_true rfl⟩) (fun f_64 hp_64 => ?_)
      rw [bx_uu] at hp_64
      subst hp_64
      refine v_ci (r_V C (c_add_X6 l D B K _ q n na g b7 _ _ _ _ _ _ _ (upn hb7 h0) (upn hb7 h4) hn hq (ne_of_none hqs hb7) (va_up_self _ _ _)) dX8_addRow_67 (upn hb7 h0) rfl g_ml_X8_65 g_im_yX8_add g_se_X8_yX8_add_yX8_add g_in_X8 g_cd_yX8_add (rn_le (by decide)) (by decide) rfl rfl hdn_yX8_add (Nat.le_of_ble_eq_true rfl) ⟨Nat.le_of_ble_eq_true rfl, Nat.le_of_ble_eq_true rfl⟩) (fun r_67 f_67 hp_67 => ?_)
      obtain ⟨rfl, rfl⟩ := hp_67
      exact v_iret C hr hlk dX8_addRow_70 (Nat.le_of_ble_eq_true rfl) (Nat.le_of_ble_eq_true rfl) ⟨rfl, b7, hb7, by unfold rowC; rw [if_neg hs, if_neg c_18]⟩

set_option maxHeartbeats 4000000 in
set_option maxRecDepth 100000 in
theorem c_wholes_full (l : Launch) (D : va_G) (B : Nat) (K : Nat → ClassId) (f : St) (q : Nat → Nat) (n na : Nat) (a b : Int64) (h0 : f (q 0) = some (.inr (6, [.ref (q 1), .ref (q 2), .ref (q 3), .ref (q 4), .ref (q 5), .ref (q 6), .int (nI n), .int (nI na)]))) (hn : n = 40) : Kc l D B K yX8_wholes cX8_wholes 5 ((some .int)) 50 1 7 [.ref (q 0), .long a, .long b] f (Qi_ D B (fun r f9 => r = -104 ∧ f9 = f)) := by
  refine v_met [(0, .ref (q 0)), (1, .long a), (3, .long b)] (by decide) (Nat.le_of_ble_eq_true rfl) rfl ?_
  intro p e s m args below meth c C hr hlk hin
  refine v_aload_n C dX8_wholes_0 rfl rfl ?_
  refine v_iconst (v := 0) C dX8_wholes_1 (by decide) ?_
  refine v_lload_n C dX8_wholes_2 rfl rfl ?_
  refine v_lload_n C dX8_wholes_3 rfl rfl ?_
  refine v_iconst (v := 1) C dX8_wholes_4 (by decide) ?_
  refine v_ci (r_V C (c_addRow_full l D B K _ q n na _ _ _ _ h0 hn) dX8_wholes_5 h0 rfl g_ml_X8_47 g_im_yX8_addRow g_se_X8_yX8_addRow_yX8_addRow g_in_X8 g_cd_yX8_addRow (rn_le (by decide)) (by decide) rfl rfl hdn_yX8_addRow (Nat.le_of_ble_eq_true rfl) ⟨Nat.le_of_ble_eq_true rfl, Nat.le_of_ble_eq_true rfl⟩) (fun r_5 f_5 hp_5 => ?_)
  obtain ⟨rfl, rfl⟩ := hp_5
  exact v_iret C hr hlk dX8_wholes_8 (Nat.le_of_ble_eq_true rfl) (Nat.le_of_ble_eq_true rfl) ⟨rfl, rfl⟩

set_option maxHeartbeats 4000000 in
set_option maxRecDepth 100000 in
theorem c_wholes_new (l : Launch) (D : va_G) (B : Nat) (K : Nat → ClassId) (f : St) (q : Nat → Nat) (n na : Nat) (g : Nat → Option Nat) (a b : Int64) (h0 : f (q 0) = some (.inr (6, [.ref (q 1), .ref (q 2), .ref (q 3), .ref (q 4), .ref (q 5), .ref (q 6), .int (nI n), .int (nI na)]))) (h4 : f (q 4) = some (.inl (K 3, 40, .inr (.inr (.inr (.inr (g))))))) (hq : ∀ i j, i < 15 → j < 15 → q i = q j → i = j) (hqs : ∀ j, j < 15 → ∃ x, f (q j) = some x) (hn : n < 40) : Kc l D B K yX8_wholes cX8_wholes 5 ((some .int)) 50 1 7 [.ref (q 0), .long a, .long b] f (Qi_ D B (fun r f9 => r = nI n ∧ ∃ b9, f b9 = none ∧ f9 = addF K q (va_up f b9 (some (rowE n 0 (rowC a b 1).1 a (rowC a b 1).2 1))) n na g b9)) := by
  refine v_met [(0, .ref (q 0)), (1, .long a), (3, .long b)] (by decide) (Nat.le_of_ble_eq_true rfl) rfl ?_
  intro p e s m args below meth c C hr hlk hin
  refine v_aload_n C dX8_wholes_0 rfl rfl ?_
  refine v_iconst (v := 0) C dX8_wholes_1 (by decide) ?_
  refine v_lload_n C dX8_wholes_2 rfl rfl ?_
  refine v_lload_n C dX8_wholes_3 rfl rfl ?_
  refine v_iconst (v := 1) C dX8_wholes_4 (by decide) ?_
  refine v_ci (r_V C (c_addRow_new l D B K _ q n na g _ _ _ _ h0 h4 hq hqs hn) dX8_wholes_5 h0 rfl g_ml_X8_47 g_im_yX8_addRow g_se_X8_yX8_addRow_yX8_addRow g_in_X8 g_cd_yX8_addRow (rn_le (by decide)) (by decide) rfl rfl hdn_yX8_addRow (Nat.le_of_ble_eq_true rfl) ⟨Nat.le_of_ble_eq_true rfl, Nat.le_of_ble_eq_true rfl⟩) (fun r_5 f_5 hp_5 => ?_)
  obtain ⟨rfl, b9, hb9, rfl⟩ := hp_5
  exact v_iret C hr hlk dX8_wholes_8 (Nat.le_of_ble_eq_true rfl) (Nat.le_of_ble_eq_true rfl) ⟨rfl, b9, hb9, rfl⟩

set_option maxHeartbeats 4000000 in
set_option maxRecDepth 100000 in
theorem c_signs_out (l : Launch) (D : va_G) (B : Nat) (K : Nat → ClassId) (f : St) (q : Nat → Nat) (n na : Nat) (a b : Int32) (h0 : f (q 0) = some (.inr (6, [.ref (q 1), .ref (q 2), .ref (q 3), .ref (q 4), .ref (q 5), .ref (q 6), .int (nI n), .int (nI na)]))) (hout : ¬ (¬ upC a 65535 = 0 ∧ ¬ upC b 65535 = 0)) : Kc l D B K yX8_signs cX8_signs 3 ((some .int)) 50 1 7 [.ref (q 0), .int a, .int b] f (Qi_ D B (fun r f9 => r = -102 ∧ f9 = f)) := by
  refine v_met [(0, .ref (q 0)), (1, .int a), (2, .int b)] (by decide) (Nat.le_of_ble_eq_true rfl) rfl ?_
  intro p e s m args below meth c C hr hlk hin
  refine v_iload_n C dX8_signs_0 rfl rfl ?_
  refine v_ldc C dX8_signs_1 g_kc_X8_51 ?_
  refine v_ci (r_S C (c_isUpTo l D B K _ _ _) dX8_signs_3 g_ml_X8_52 g_st_yX8_isUpTo g_in_X8 g_cd_yX8_isUpTo (rn_le (by decide)) (by decide) rfl hdn_yX8_isUpTo (Nat.le_of_ble_eq_true rfl) ⟨Nat.le_of_ble_eq_true rfl, Nat.le_of_ble_eq_true rfl⟩) (fun r_3 f_3 hp_3 => ?_)
  obtain ⟨rfl, rfl⟩ := hp_3
  refine v_if_eq (tgt := 18) C dX8_signs_6 (by decide) (fun c_6 => ?_) (fun c_6 => ?_)
  · refine v_bipush (v := (-102)) C dX8_signs_18 (by decide) ?_
    exact v_iret C hr hlk dX8_signs_20 (Nat.le_of_ble_eq_true rfl) (Nat.le_of_ble_eq_true rfl) ⟨rfl, rfl⟩
  · refine v_iload_n C dX8_signs_9 rfl rfl ?_
    refine v_ldc C dX8_signs_10 g_kc_X8_51 ?_
    refine v_ci (r_S C (c_isUpTo l D B K _ _ _) dX8_signs_12 g_ml_X8_52 g_st_yX8_isUpTo g_in_X8 g_cd_yX8_isUpTo (rn_le (by decide)) (by decide) rfl hdn_yX8_isUpTo (Nat.le_of_ble_eq_true rfl) ⟨Nat.le_of_ble_eq_true rfl, Nat.le_of_ble_eq_true rfl⟩) (fun r_12 f_12 hp_12 => ?_)
    obtain ⟨rfl, rfl⟩ := hp_12
    refine v_if_ne (tgt := 21) C dX8_signs_15 (by decide) (fun c_15 => ?_) (fun c_15 => ?_)
    · exact absurd ⟨c_6, c_15⟩ hout
    · refine v_bipush (v := (-102)) C dX8_signs_18 (by decide) ?_
      exact v_iret C hr hlk dX8_signs_20 (Nat.le_of_ble_eq_true rfl) (Nat.le_of_ble_eq_true rfl) ⟨rfl, rfl⟩

set_option maxHeartbeats 4000000 in
set_option maxRecDepth 100000 in
theorem c_signs_full (l : Launch) (D : va_G) (B : Nat) (K : Nat → ClassId) (f : St) (q : Nat → Nat) (n na : Nat) (a b : Int32) (h0 : f (q 0) = some (.inr (6, [.ref (q 1), .ref (q 2), .ref (q 3), .ref (q 4), .ref (q 5), .ref (q 6), .int (nI n), .int (nI na)]))) (hin9 : ¬ upC a 65535 = 0 ∧ ¬ upC b 65535 = 0) (hn : n = 40) : Kc l D B K yX8_signs cX8_signs 3 ((some .int)) 50 1 7 [.ref (q 0), .int a, .int b] f (Qi_ D B (fun r f9 => r = -104 ∧ f9 = f)) := by
  refine v_met [(0, .ref (q 0)), (1, .int a), (2, .int b)] (by decide) (Nat.le_of_ble_eq_true rfl) rfl ?_
  intro p e s m args below meth c C hr hlk hin
  refine v_iload_n C dX8_signs_0 rfl rfl ?_
  refine v_ldc C dX8_signs_1 g_kc_X8_51 ?_
  refine v_ci (r_S C (c_isUpTo l D B K _ _ _) dX8_signs_3 g_ml_X8_52 g_st_yX8_isUpTo g_in_X8 g_cd_yX8_isUpTo (rn_le (by decide)) (by decide) rfl hdn_yX8_isUpTo (Nat.le_of_ble_eq_true rfl) ⟨Nat.le_of_ble_eq_true rfl, Nat.le_of_ble_eq_true rfl⟩) (fun r_3 f_3 hp_3 => ?_)
  obtain ⟨rfl, rfl⟩ := hp_3
  refine v_if_eq (tgt := 18) C dX8_signs_6 (by decide) (fun c_6 => absurd c_6 hin9.1) (fun c_6 => ?_)
  refine v_iload_n C dX8_signs_9 rfl rfl ?_
  refine v_ldc C dX8_signs_10 g_kc_X8_51 ?_
  refine v_ci (r_S C (c_isUpTo l D B K _ _ _) dX8_signs_12 g_ml_X8_52 g_st_yX8_isUpTo g_in_X8 g_cd_yX8_isUpTo (rn_le (by decide)) (by decide) rfl hdn_yX8_isUpTo (Nat.le_of_ble_eq_true rfl) ⟨Nat.le_of_ble_eq_true rfl, Nat.le_of_ble_eq_true rfl⟩) (fun r_12 f_12 hp_12 => ?_)
  obtain ⟨rfl, rfl⟩ := hp_12
  refine v_if_ne (tgt := 21) C dX8_signs_15 (by decide) (fun c_15 => ?_) (fun c_15 => absurd c_15 hin9.2)
  refine v_aload_n C dX8_signs_21 rfl rfl ?_
  refine v_iconst (v := 1) C dX8_signs_22 (by decide) ?_
  refine v_iload_n C dX8_signs_23 rfl rfl ?_
  refine v_i2l C dX8_signs_24 ?_
  refine v_iload_n C dX8_signs_25 rfl rfl ?_
  refine v_i2l C dX8_signs_26 ?_
  refine v_iconst (v := 1) C dX8_signs_27 (by decide) ?_
  refine v_ci (r_V C (c_addRow_full l D B K _ q n na _ _ _ _ h0 hn) dX8_signs_28 h0 rfl g_ml_X8_47 g_im_yX8_addRow g_se_X8_yX8_addRow_yX8_addRow g_in_X8 g_cd_yX8_addRow (rn_le (by decide)) (by decide) rfl rfl hdn_yX8_addRow (Nat.le_of_ble_eq_true rfl) ⟨Nat.le_of_ble_eq_true rfl, Nat.le_of_ble_eq_true rfl⟩) (fun r_28 f_28 hp_28 => ?_)
  obtain ⟨rfl, rfl⟩ := hp_28
  exact v_iret C hr hlk dX8_signs_31 (Nat.le_of_ble_eq_true rfl) (Nat.le_of_ble_eq_true rfl) ⟨rfl, rfl⟩

set_option maxHeartbeats 4000000 in
set_option maxRecDepth 100000 in
theorem c_signs_new (l : Launch) (D : va_G) (B : Nat) (K : Nat → ClassId) (f : St) (q : Nat → Nat) (n na : Nat) (g : Nat → Option Nat) (a b : Int32) (h0 : f (q 0) = some (.inr (6, [.ref (q 1), .ref (q 2), .ref (q 3), .ref (q 4), .ref (q 5), .ref (q 6), .int (nI n), .int (nI na)]))) (h4 : f (q 4) = some (.inl (K 3, 40, .inr (.inr (.inr (.inr (g))))))) (hq : ∀ i j, i < 15 → j < 15 → q i = q j → i = j) (hqs : ∀ j, j < 15 → ∃ x, f (q j) = some x) (hin9 : ¬ upC a 65535 = 0 ∧ ¬ upC b 65535 = 0) (hn : n < 40) : Kc l D B K yX8_signs cX8_signs 3 ((some .int)) 50 1 7 [.ref (q 0), .int a, .int b] f (Qi_ D B (fun r f9 => r = nI n ∧ ∃ b9, f b9 = none ∧ f9 = addF K q (va_up f b9 (some (rowE n 1 (rowC a.toInt64 b.toInt64 1).1 a.toInt64 (rowC a.toInt64 b.toInt64 1).2 1))) n na g b9)) := by
  refine v_met [(0, .ref (q 0)), (1, .int a), (2, .int b)] (by decide) (Nat.le_of_ble_eq_true rfl) rfl ?_
  intro p e s m args below meth c C hr hlk hin
  refine v_iload_n C dX8_signs_0 rfl rfl ?_
  refine v_ldc C dX8_signs_1 g_kc_X8_51 ?_
  refine v_ci (r_S C (c_isUpTo l D B K _ _ _) dX8_signs_3 g_ml_X8_52 g_st_yX8_isUpTo g_in_X8 g_cd_yX8_isUpTo (rn_le (by decide)) (by decide) rfl hdn_yX8_isUpTo (Nat.le_of_ble_eq_true rfl) ⟨Nat.le_of_ble_eq_true rfl, Nat.le_of_ble_eq_true rfl⟩) (fun r_3 f_3 hp_3 => ?_)
  obtain ⟨rfl, rfl⟩ := hp_3
  refine v_if_eq (tgt := 18) C dX8_signs_6 (by decide) (fun c_6 => absurd c_6 hin9.1) (fun c_6 => ?_)
  refine v_iload_n C dX8_signs_9 rfl rfl ?_
  refine v_ldc C dX8_signs_10 g_kc_X8_51 ?_
  refine v_ci (r_S C (c_isUpTo l D B K _ _ _) dX8_signs_12 g_ml_X8_52 g_st_yX8_isUpTo g_in_X8 g_cd_yX8_isUpTo (rn_le (by decide)) (by decide) rfl hdn_yX8_isUpTo (Nat.le_of_ble_eq_true rfl) ⟨Nat.le_of_ble_eq_true rfl, Nat.le_of_ble_eq_true rfl⟩) (fun r_12 f_12 hp_12 => ?_)
  obtain ⟨rfl, rfl⟩ := hp_12
  refine v_if_ne (tgt := 21) C dX8_signs_15 (by decide) (fun c_15 => ?_) (fun c_15 => absurd c_15 hin9.2)
  refine v_aload_n C dX8_signs_21 rfl rfl ?_
  refine v_iconst (v := 1) C dX8_signs_22 (by decide) ?_
  refine v_iload_n C dX8_signs_23 rfl rfl ?_
  refine v_i2l C dX8_signs_24 ?_
  refine v_iload_n C dX8_signs_25 rfl rfl ?_
  refine v_i2l C dX8_signs_26 ?_
  refine v_iconst (v := 1) C dX8_signs_27 (by decide) ?_
  refine v_ci (r_V C (c_addRow_new l D B K _ q n na g _ _ _ _ h0 h4 hq hqs hn) dX8_signs_28 h0 rfl g_ml_X8_47 g_im_yX8_addRow g_se_X8_yX8_addRow_yX8_addRow g_in_X8 g_cd_yX8_addRow (rn_le (by decide)) (by decide) rfl rfl hdn_yX8_addRow (Nat.le_of_ble_eq_true rfl) ⟨Nat.le_of_ble_eq_true rfl, Nat.le_of_ble_eq_true rfl⟩) (fun r_28 f_28 hp_28 => ?_)
  obtain ⟨rfl, b9, hb9, rfl⟩ := hp_28
  exact v_iret C hr hlk dX8_signs_31 (Nat.le_of_ble_eq_true rfl) (Nat.le_of_ble_eq_true rfl) ⟨rfl, b9, hb9, rfl⟩

set_option maxHeartbeats 4000000 in
set_option maxRecDepth 100000 in
theorem c_steps_out (l : Launch) (D : va_G) (B : Nat) (K : Nat → ClassId) (f : St) (q : Nat → Nat) (n na : Nat) (a b : Int64) (s9 : Int32) (h0 : f (q 0) = some (.inr (6, [.ref (q 1), .ref (q 2), .ref (q 3), .ref (q 4), .ref (q 5), .ref (q 6), .int (nI n), .int (nI na)]))) (hout : ¬ (¬ s9 = 0 ∧ ¬ s9 < -1000000 ∧ s9 ≤ 1000000)) : Kc l D B K yX8_steps cX8_steps 6 ((some .int)) 50 1 7 [.ref (q 0), .long a, .long b, .int s9] f (Qi_ D B (fun r f9 => r = -102 ∧ f9 = f)) := by
  refine v_met [(0, .ref (q 0)), (1, .long a), (3, .long b), (5, .int s9)] (by decide) (Nat.le_of_ble_eq_true rfl) rfl ?_
  intro p e s m args below meth c C hr hlk hin
  refine v_iload C dX8_steps_0 rfl ?_
  refine v_if_eq (tgt := 19) C dX8_steps_2 (by decide) (fun c_2 => ?_) (fun c_2 => ?_)
  · refine v_bipush (v := (-102)) C dX8_steps_19 (by decide) ?_
    exact v_iret C hr hlk dX8_steps_21 (Nat.le_of_ble_eq_true rfl) (Nat.le_of_ble_eq_true rfl) ⟨rfl, rfl⟩
  · refine v_iload C dX8_steps_5 rfl ?_
    refine v_ldc C dX8_steps_7 g_kc_X8_69 ?_
    refine v_icmp_lt (tgt := 19) C dX8_steps_9 (by decide) (fun c_9 => ?_) (fun c_9 => ?_)
    · refine v_bipush (v := (-102)) C dX8_steps_19 (by decide) ?_
      exact v_iret C hr hlk dX8_steps_21 (Nat.le_of_ble_eq_true rfl) (Nat.le_of_ble_eq_true rfl) ⟨rfl, rfl⟩
    · refine v_iload C dX8_steps_12 rfl ?_
      refine v_ldc C dX8_steps_14 g_kc_X8_70 ?_
      refine v_icmp_le (tgt := 22) C dX8_steps_16 (by decide) (fun c_16 => ?_) (fun c_16 => ?_)
      · exact absurd ⟨c_2, c_9, c_16⟩ hout
      · refine v_bipush (v := (-102)) C dX8_steps_19 (by decide) ?_
        exact v_iret C hr hlk dX8_steps_21 (Nat.le_of_ble_eq_true rfl) (Nat.le_of_ble_eq_true rfl) ⟨rfl, rfl⟩

set_option maxHeartbeats 4000000 in
set_option maxRecDepth 100000 in
theorem c_steps_full (l : Launch) (D : va_G) (B : Nat) (K : Nat → ClassId) (f : St) (q : Nat → Nat) (n na : Nat) (a b : Int64) (s9 : Int32) (h0 : f (q 0) = some (.inr (6, [.ref (q 1), .ref (q 2), .ref (q 3), .ref (q 4), .ref (q 5), .ref (q 6), .int (nI n), .int (nI na)]))) (hin9 : ¬ s9 = 0 ∧ ¬ s9 < -1000000 ∧ s9 ≤ 1000000) (hn : n = 40) : Kc l D B K yX8_steps cX8_steps 6 ((some .int)) 50 1 7 [.ref (q 0), .long a, .long b, .int s9] f (Qi_ D B (fun r f9 => r = -104 ∧ f9 = f)) := by
  refine v_met [(0, .ref (q 0)), (1, .long a), (3, .long b), (5, .int s9)] (by decide) (Nat.le_of_ble_eq_true rfl) rfl ?_
  intro p e s m args below meth c C hr hlk hin
  refine v_iload C dX8_steps_0 rfl ?_
  refine v_if_eq (tgt := 19) C dX8_steps_2 (by decide) (fun c_2 => absurd c_2 hin9.1) (fun c_2 => ?_)
  refine v_iload C dX8_steps_5 rfl ?_
  refine v_ldc C dX8_steps_7 g_kc_X8_69 ?_
  refine v_icmp_lt (tgt := 19) C dX8_steps_9 (by decide) (fun c_9 => absurd c_9 hin9.2.1) (fun c_9 => ?_)
  refine v_iload C dX8_steps_12 rfl ?_
  refine v_ldc C dX8_steps_14 g_kc_X8_70 ?_
  refine v_icmp_le (tgt := 22) C dX8_steps_16 (by decide) (fun c_16 => ?_) (fun c_16 => absurd hin9.2.2 c_16)
  refine v_aload_n C dX8_steps_22 rfl rfl ?_
  refine v_iconst (v := 3) C dX8_steps_23 (by decide) ?_
  refine v_lload_n C dX8_steps_24 rfl rfl ?_
  refine v_lload_n C dX8_steps_25 rfl rfl ?_
  refine v_iload C dX8_steps_26 rfl ?_
  refine v_ci (r_V C (c_addRow_full l D B K _ q n na _ _ _ _ h0 hn) dX8_steps_28 h0 rfl g_ml_X8_47 g_im_yX8_addRow g_se_X8_yX8_addRow_yX8_addRow g_in_X8 g_cd_yX8_addRow (rn_le (by decide)) (by decide) rfl rfl hdn_yX8_addRow (Nat.le_of_ble_eq_true rfl) ⟨Nat.le_of_ble_eq_true rfl, Nat.le_of_ble_eq_true rfl⟩) (fun r_28 f_28 hp_28 => ?_)
  obtain ⟨rfl, rfl⟩ := hp_28
  exact v_iret C hr hlk dX8_steps_31 (Nat.le_of_ble_eq_true rfl) (Nat.le_of_ble_eq_true rfl) ⟨rfl, rfl⟩

set_option maxHeartbeats 4000000 in
set_option maxRecDepth 100000 in
theorem c_steps_new (l : Launch) (D : va_G) (B : Nat) (K : Nat → ClassId) (f : St) (q : Nat → Nat) (n na : Nat) (g : Nat → Option Nat) (a b : Int64) (s9 : Int32) (h0 : f (q 0) = some (.inr (6, [.ref (q 1), .ref (q 2), .ref (q 3), .ref (q 4), .ref (q 5), .ref (q 6), .int (nI n), .int (nI na)]))) (h4 : f (q 4) = some (.inl (K 3, 40, .inr (.inr (.inr (.inr (g))))))) (hq : ∀ i j, i < 15 → j < 15 → q i = q j → i = j) (hqs : ∀ j, j < 15 → ∃ x, f (q j) = some x) (hin9 : ¬ s9 = 0 ∧ ¬ s9 < -1000000 ∧ s9 ≤ 1000000) (hn : n < 40) : Kc l D B K yX8_steps cX8_steps 6 ((some .int)) 50 1 7 [.ref (q 0), .long a, .long b, .int s9] f (Qi_ D B (fun r f9 => r = nI n ∧ ∃ b9, f b9 = none ∧ f9 = addF K q (va_up f b9 (some (rowE n 3 (rowC a b s9).1 a (rowC a b s9).2 s9))) n na g b9)) := by
  refine v_met [(0, .ref (q 0)), (1, .long a), (3, .long b), (5, .int s9)] (by decide) (Nat.le_of_ble_eq_true rfl) rfl ?_
  intro p e s m args below meth c C hr hlk hin
  refine v_iload C dX8_steps_0 rfl ?_
  refine v_if_eq (tgt := 19) C dX8_steps_2 (by decide) (fun c_2 => absurd c_2 hin9.1) (fun c_2 => ?_)
  refine v_iload C dX8_steps_5 rfl ?_
  refine v_ldc C dX8_steps_7 g_kc_X8_69 ?_
  refine v_icmp_lt (tgt := 19) C dX8_steps_9 (by decide) (fun c_9 => absurd c_9 hin9.2.1) (fun c_9 => ?_)
  refine v_iload C dX8_steps_12 rfl ?_
  refine v_ldc C dX8_steps_14 g_kc_X8_70 ?_
  refine v_icmp_le (tgt := 22) C dX8_steps_16 (by decide) (fun c_16 => ?_) (fun c_16 => absurd hin9.2.2 c_16)
  refine v_aload_n C dX8_steps_22 rfl rfl ?_
  refine v_iconst (v := 3) C dX8_steps_23 (by decide) ?_
  refine v_lload_n C dX8_steps_24 rfl rfl ?_
  refine v_lload_n C dX8_steps_25 rfl rfl ?_
  refine v_iload C dX8_steps_26 rfl ?_
  refine v_ci (r_V C (c_addRow_new l D B K _ q n na g _ _ _ _ h0 h4 hq hqs hn) dX8_steps_28 h0 rfl g_ml_X8_47 g_im_yX8_addRow g_se_X8_yX8_addRow_yX8_addRow g_in_X8 g_cd_yX8_addRow (rn_le (by decide)) (by decide) rfl rfl hdn_yX8_addRow (Nat.le_of_ble_eq_true rfl) ⟨Nat.le_of_ble_eq_true rfl, Nat.le_of_ble_eq_true rfl⟩) (fun r_28 f_28 hp_28 => ?_)
  obtain ⟨rfl, b9, hb9, rfl⟩ := hp_28
  exact v_iret C hr hlk dX8_steps_31 (Nat.le_of_ble_eq_true rfl) (Nat.le_of_ble_eq_true rfl) ⟨rfl, b9, hb9, rfl⟩

