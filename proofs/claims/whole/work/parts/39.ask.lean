/-! the reference: what is asked of it -/
set_option maxHeartbeats 4000000 in
set_option maxRecDepth 100000 in
theorem m_told_bad (l : Launch) (D : va_G) (B : Nat) (K : Nat → ClassId) (f : St) (r : Nat → Nat) (f0 : St) (A : Nat → Nat → Int32) (L : Nat → Nat → Int64) (I : Nat → Int32) (n : Nat) (hM : MC K r f0 f A L I) (hI0 : I 0 = nI n) (hn40 : n ≤ 40) (x : Int32) (hx : x < 0 ∨ nI n ≤ x) (w : Int32) : Kc l D B K yX9_told cX9_told 3 ((some .int)) 4 0 0 [.ref (r 0), .int x, .int w] f (Qi_ D B (fun x f9 => x = -101 ∧ f9 = f)) := by
  refine v_met [(0, .ref (r 0)), (1, .int x), (2, .int w)] (by decide) (Nat.le_of_ble_eq_true rfl) rfl ?_
  intro p e s m args below meth c C hr hlk hin
  refine v_aload_n C dX9_told_0 rfl rfl ?_
  refine v_iload_n C dX9_told_1 rfl rfl ?_
  refine v_ci (r_V C (m_noRange_bad l D B K _ r f0 A L I n hM hI0 hn40 x hx) dX9_told_2 hM.1 rfl g_ml_X9_101 g_im_yX9_noRange g_se_X9_yX9_noRange_yX9_noRange g_in_X9 g_cd_yX9_noRange (rn_le (by decide)) (by decide) rfl rfl hdn_yX9_noRange (Nat.le_of_ble_eq_true rfl) ⟨Nat.le_of_ble_eq_true rfl, Nat.le_of_ble_eq_true rfl⟩) (fun r_2 f_2 hp_2 => ?_)
  obtain ⟨rfl, hf9⟩ := hp_2
  have hf9 := hf9.symm
  subst hf9
  refine v_if_eq (tgt := 11) C dX9_told_5 (by decide) (fun c_5 => absurd c_5 (by decide)) (fun _ => ?_)
  refine v_bipush (v := (-101)) C dX9_told_8 (by decide) ?_
  exact v_iret C hr hlk dX9_told_10 (Nat.le_refl _) (Nat.le_refl _) ⟨rfl, rfl⟩

set_option maxHeartbeats 4000000 in
set_option maxRecDepth 100000 in
theorem m_told_0 (l : Launch) (D : va_G) (B : Nat) (K : Nat → ClassId) (f : St) (r : Nat → Nat) (f0 : St) (A : Nat → Nat → Int32) (L : Nat → Nat → Int64) (I : Nat → Int32) (n : Nat) (hM : MC K r f0 f A L I) (hI0 : I 0 = nI n) (hn40 : n ≤ 40) (i : Nat) (hi : i < n) : Kc l D B K yX9_told cX9_told 3 ((some .int)) 4 0 0 [.ref (r 0), .int (nI i), .int 0] f (Qi_ D B (fun x f9 => x = A 1 i ∧ f9 = f)) := by
  refine v_met [(0, .ref (r 0)), (1, .int (nI i)), (2, .int 0)] (by decide) (Nat.le_of_ble_eq_true rfl) rfl ?_
  intro p e s m args below meth c C hr hlk hin
  refine v_aload_n C dX9_told_0 rfl rfl ?_
  refine v_iload_n C dX9_told_1 rfl rfl ?_
  refine v_ci (r_V C (m_noRange_ok l D B K _ r f0 A L I n hM hI0 hn40 i hi) dX9_told_2 hM.1 rfl g_ml_X9_101 g_im_yX9_noRange g_se_X9_yX9_noRange_yX9_noRange g_in_X9 g_cd_yX9_noRange (rn_le (by decide)) (by decide) rfl rfl hdn_yX9_noRange (Nat.le_of_ble_eq_true rfl) ⟨Nat.le_of_ble_eq_true rfl, Nat.le_of_ble_eq_true rfl⟩) (fun r_2 f_2 hp_2 => ?_)
  obtain ⟨rfl, hf9⟩ := hp_2
  have hf9 := hf9.symm
  subst hf9
  refine v_if_eq (tgt := 11) C dX9_told_5 (by decide) (fun _ => ?_) (fun c_5 => absurd c_5 (by decide))
  refine v_iload_n C dX9_told_11 rfl rfl ?_
  refine v_tabIn (tgt := 44) (off := 32) C dX9_told_12 (by decide) (by decide) (by decide) (by decide) ?_
  refine v_aload_n C dX9_told_44 rfl rfl ?_
  refine v_get C dX9_told_45 1 hM.1 rfl in_X9 (by decide) g_fl_X9_7 (fun _ h9 => h9) rfl ?_
  refine v_iload_n C dX9_told_48 rfl rfl ?_
  refine m_ild C hM dX9_told_49 1 i (by decide) (show _ < 40 by omega) rfl ?_
  exact v_iret C hr hlk dX9_told_50 (Nat.le_refl _) (Nat.le_refl _) ⟨rfl, rfl⟩

set_option maxHeartbeats 4000000 in
set_option maxRecDepth 100000 in
theorem m_told_1 (l : Launch) (D : va_G) (B : Nat) (K : Nat → ClassId) (f : St) (r : Nat → Nat) (f0 : St) (A : Nat → Nat → Int32) (L : Nat → Nat → Int64) (I : Nat → Int32) (n : Nat) (hM : MC K r f0 f A L I) (hI0 : I 0 = nI n) (hn40 : n ≤ 40) (i : Nat) (hi : i < n) : Kc l D B K yX9_told cX9_told 3 ((some .int)) 4 0 0 [.ref (r 0), .int (nI i), .int 1] f (Qi_ D B (fun x f9 => x = A 3 i ∧ f9 = f)) := by
  refine v_met [(0, .ref (r 0)), (1, .int (nI i)), (2, .int 1)] (by decide) (Nat.le_of_ble_eq_true rfl) rfl ?_
  intro p e s m args below meth c C hr hlk hin
  refine v_aload_n C dX9_told_0 rfl rfl ?_
  refine v_iload_n C dX9_told_1 rfl rfl ?_
  refine v_ci (r_V C (m_noRange_ok l D B K _ r f0 A L I n hM hI0 hn40 i hi) dX9_told_2 hM.1 rfl g_ml_X9_101 g_im_yX9_noRange g_se_X9_yX9_noRange_yX9_noRange g_in_X9 g_cd_yX9_noRange (rn_le (by decide)) (by decide) rfl rfl hdn_yX9_noRange (Nat.le_of_ble_eq_true rfl) ⟨Nat.le_of_ble_eq_true rfl, Nat.le_of_ble_eq_true rfl⟩) (fun r_2 f_2 hp_2 => ?_)
  obtain ⟨rfl, hf9⟩ := hp_2
  have hf9 := hf9.symm
  subst hf9
  refine v_if_eq (tgt := 11) C dX9_told_5 (by decide) (fun _ => ?_) (fun c_5 => absurd c_5 (by decide))
  refine v_iload_n C dX9_told_11 rfl rfl ?_
  refine v_tabIn (tgt := 51) (off := 39) C dX9_told_12 (by decide) (by decide) (by decide) (by decide) ?_
  refine v_aload_n C dX9_told_51 rfl rfl ?_
  refine v_get C dX9_told_52 3 hM.1 rfl in_X9 (by decide) g_fl_X9_16 (fun _ h9 => h9) rfl ?_
  refine v_iload_n C dX9_told_55 rfl rfl ?_
  refine m_ild C hM dX9_told_56 3 i (by decide) (show _ < 40 by omega) rfl ?_
  exact v_iret C hr hlk dX9_told_57 (Nat.le_refl _) (Nat.le_refl _) ⟨rfl, rfl⟩

set_option maxHeartbeats 4000000 in
set_option maxRecDepth 100000 in
theorem m_told_2 (l : Launch) (D : va_G) (B : Nat) (K : Nat → ClassId) (f : St) (r : Nat → Nat) (f0 : St) (A : Nat → Nat → Int32) (L : Nat → Nat → Int64) (I : Nat → Int32) (n : Nat) (hM : MC K r f0 f A L I) (hI0 : I 0 = nI n) (hn40 : n ≤ 40) (i : Nat) (hi : i < n) : Kc l D B K yX9_told cX9_told 3 ((some .int)) 4 0 0 [.ref (r 0), .int (nI i), .int 2] f (Qi_ D B (fun x f9 => x = A 2 i ∧ f9 = f)) := by
  refine v_met [(0, .ref (r 0)), (1, .int (nI i)), (2, .int 2)] (by decide) (Nat.le_of_ble_eq_true rfl) rfl ?_
  intro p e s m args below meth c C hr hlk hin
  refine v_aload_n C dX9_told_0 rfl rfl ?_
  refine v_iload_n C dX9_told_1 rfl rfl ?_
  refine v_ci (r_V C (m_noRange_ok l D B K _ r f0 A L I n hM hI0 hn40 i hi) dX9_told_2 hM.1 rfl g_ml_X9_101 g_im_yX9_noRange g_se_X9_yX9_noRange_yX9_noRange g_in_X9 g_cd_yX9_noRange (rn_le (by decide)) (by decide) rfl rfl hdn_yX9_noRange (Nat.le_of_ble_eq_true rfl) ⟨Nat.le_of_ble_eq_true rfl, Nat.le_of_ble_eq_true rfl⟩) (fun r_2 f_2 hp_2 => ?_)
  obtain ⟨rfl, hf9⟩ := hp_2
  have hf9 := hf9.symm
  subst hf9
  refine v_if_eq (tgt := 11) C dX9_told_5 (by decide) (fun _ => ?_) (fun c_5 => absurd c_5 (by decide))
  refine v_iload_n C dX9_told_11 rfl rfl ?_
  refine v_tabIn (tgt := 58) (off := 46) C dX9_told_12 (by decide) (by decide) (by decide) (by decide) ?_
  refine v_aload_n C dX9_told_58 rfl rfl ?_
  refine v_get C dX9_told_59 2 hM.1 rfl in_X9 (by decide) g_fl_X9_13 (fun _ h9 => h9) rfl ?_
  refine v_iload_n C dX9_told_62 rfl rfl ?_
  refine m_ild C hM dX9_told_63 2 i (by decide) (show _ < 40 by omega) rfl ?_
  exact v_iret C hr hlk dX9_told_64 (Nat.le_refl _) (Nat.le_refl _) ⟨rfl, rfl⟩

set_option maxHeartbeats 4000000 in
set_option maxRecDepth 100000 in
theorem m_told_3 (l : Launch) (D : va_G) (B : Nat) (K : Nat → ClassId) (f : St) (r : Nat → Nat) (f0 : St) (A : Nat → Nat → Int32) (L : Nat → Nat → Int64) (I : Nat → Int32) (n : Nat) (hM : MC K r f0 f A L I) (hI0 : I 0 = nI n) (hn40 : n ≤ 40) (i : Nat) (hi : i < n) : Kc l D B K yX9_told cX9_told 3 ((some .int)) 4 0 0 [.ref (r 0), .int (nI i), .int 3] f (Qi_ D B (fun x f9 => x = A 3 i ∧ f9 = f)) := by
  refine v_met [(0, .ref (r 0)), (1, .int (nI i)), (2, .int 3)] (by decide) (Nat.le_of_ble_eq_true rfl) rfl ?_
  intro p e s m args below meth c C hr hlk hin
  refine v_aload_n C dX9_told_0 rfl rfl ?_
  refine v_iload_n C dX9_told_1 rfl rfl ?_
  refine v_ci (r_V C (m_noRange_ok l D B K _ r f0 A L I n hM hI0 hn40 i hi) dX9_told_2 hM.1 rfl g_ml_X9_101 g_im_yX9_noRange g_se_X9_yX9_noRange_yX9_noRange g_in_X9 g_cd_yX9_noRange (rn_le (by decide)) (by decide) rfl rfl hdn_yX9_noRange (Nat.le_of_ble_eq_true rfl) ⟨Nat.le_of_ble_eq_true rfl, Nat.le_of_ble_eq_true rfl⟩) (fun r_2 f_2 hp_2 => ?_)
  obtain ⟨rfl, hf9⟩ := hp_2
  have hf9 := hf9.symm
  subst hf9
  refine v_if_eq (tgt := 11) C dX9_told_5 (by decide) (fun _ => ?_) (fun c_5 => absurd c_5 (by decide))
  refine v_iload_n C dX9_told_11 rfl rfl ?_
  refine v_tabIn (tgt := 51) (off := 39) C dX9_told_12 (by decide) (by decide) (by decide) (by decide) ?_
  refine v_aload_n C dX9_told_51 rfl rfl ?_
  refine v_get C dX9_told_52 3 hM.1 rfl in_X9 (by decide) g_fl_X9_16 (fun _ h9 => h9) rfl ?_
  refine v_iload_n C dX9_told_55 rfl rfl ?_
  refine m_ild C hM dX9_told_56 3 i (by decide) (show _ < 40 by omega) rfl ?_
  exact v_iret C hr hlk dX9_told_57 (Nat.le_refl _) (Nat.le_refl _) ⟨rfl, rfl⟩

set_option maxHeartbeats 4000000 in
set_option maxRecDepth 100000 in
theorem m_told_out (l : Launch) (D : va_G) (B : Nat) (K : Nat → ClassId) (f : St) (r : Nat → Nat) (f0 : St) (A : Nat → Nat → Int32) (L : Nat → Nat → Int64) (I : Nat → Int32) (n : Nat) (hM : MC K r f0 f A L I) (hI0 : I 0 = nI n) (hn40 : n ≤ 40) (i : Nat) (hi : i < n) (w : Int32) (hw : w.toInt < 0 ∨ 3 < w.toInt) : Kc l D B K yX9_told cX9_told 3 ((some .int)) 4 0 0 [.ref (r 0), .int (nI i), .int w] f (Qi_ D B (fun x f9 => x = -102 ∧ f9 = f)) := by
  refine v_met [(0, .ref (r 0)), (1, .int (nI i)), (2, .int w)] (by decide) (Nat.le_of_ble_eq_true rfl) rfl ?_
  intro p e s m args below meth c C hr hlk hin
  refine v_aload_n C dX9_told_0 rfl rfl ?_
  refine v_iload_n C dX9_told_1 rfl rfl ?_
  refine v_ci (r_V C (m_noRange_ok l D B K _ r f0 A L I n hM hI0 hn40 i hi) dX9_told_2 hM.1 rfl g_ml_X9_101 g_im_yX9_noRange g_se_X9_yX9_noRange_yX9_noRange g_in_X9 g_cd_yX9_noRange (rn_le (by decide)) (by decide) rfl rfl hdn_yX9_noRange (Nat.le_of_ble_eq_true rfl) ⟨Nat.le_of_ble_eq_true rfl, Nat.le_of_ble_eq_true rfl⟩) (fun r_2 f_2 hp_2 => ?_)
  obtain ⟨rfl, hf9⟩ := hp_2
  have hf9 := hf9.symm
  subst hf9
  refine v_if_eq (tgt := 11) C dX9_told_5 (by decide) (fun _ => ?_) (fun c_5 => absurd c_5 (by decide))
  refine v_iload_n C dX9_told_11 rfl rfl ?_
  refine v_tabOut (tgt := 65) C dX9_told_12 hw (by decide) ?_
  refine v_bipush (v := (-102)) C dX9_told_65 (by decide) ?_
  exact v_iret C hr hlk dX9_told_67 (Nat.le_refl _) (Nat.le_refl _) ⟨rfl, rfl⟩

set_option maxHeartbeats 4000000 in
set_option maxRecDepth 100000 in
theorem m_size_bad (l : Launch) (D : va_G) (B : Nat) (K : Nat → ClassId) (f : St) (r : Nat → Nat) (f0 : St) (A : Nat → Nat → Int32) (L : Nat → Nat → Int64) (I : Nat → Int32) (n : Nat) (hM : MC K r f0 f A L I) (hI0 : I 0 = nI n) (hn40 : n ≤ 40) (x : Int32) (hx : x < 0 ∨ nI n ≤ x) : Kc l D B K yX9_size cX9_size 2 ((some .long)) 4 0 0 [.ref (r 0), .int x] f (Ql_ D B (fun x f9 => x = -1000000101 ∧ f9 = f)) := by
  refine v_met [(0, .ref (r 0)), (1, .int x)] (by decide) (Nat.le_of_ble_eq_true rfl) rfl ?_
  intro p e s m args below meth c C hr hlk hin
  refine v_aload_n C dX9_size_0 rfl rfl ?_
  refine v_iload_n C dX9_size_1 rfl rfl ?_
  refine v_ci (r_V C (m_noRange_bad l D B K _ r f0 A L I n hM hI0 hn40 x hx) dX9_size_2 hM.1 rfl g_ml_X9_101 g_im_yX9_noRange g_se_X9_yX9_noRange_yX9_noRange g_in_X9 g_cd_yX9_noRange (rn_le (by decide)) (by decide) rfl rfl hdn_yX9_noRange (Nat.le_of_ble_eq_true rfl) ⟨Nat.le_of_ble_eq_true rfl, Nat.le_of_ble_eq_true rfl⟩) (fun r_2 f_2 hp_2 => ?_)
  obtain ⟨rfl, hf9⟩ := hp_2
  have hf9 := hf9.symm
  subst hf9
  refine v_if_eq (tgt := 14) C dX9_size_5 (by decide) (fun c_5 => absurd c_5 (by decide)) (fun _ => ?_)
  refine v_ldc2 C dX9_size_8 g_kl_X9_116 ?_
  refine v_goto (tgt := 20) C dX9_size_11 (by decide) ?_
  exact v_lret C hr hlk dX9_size_20 (Nat.le_refl _) (Nat.le_refl _) ⟨rfl, rfl⟩

set_option maxHeartbeats 4000000 in
set_option maxRecDepth 100000 in
theorem m_size_ok (l : Launch) (D : va_G) (B : Nat) (K : Nat → ClassId) (f : St) (r : Nat → Nat) (f0 : St) (A : Nat → Nat → Int32) (L : Nat → Nat → Int64) (I : Nat → Int32) (n : Nat) (hM : MC K r f0 f A L I) (hI0 : I 0 = nI n) (hn40 : n ≤ 40) (i : Nat) (hi : i < n) : Kc l D B K yX9_size cX9_size 2 ((some .long)) 4 0 0 [.ref (r 0), .int (nI i)] f (Ql_ D B (fun x f9 => x = L 4 i ∧ f9 = f)) := by
  refine v_met [(0, .ref (r 0)), (1, .int (nI i))] (by decide) (Nat.le_of_ble_eq_true rfl) rfl ?_
  intro p e s m args below meth c C hr hlk hin
  refine v_aload_n C dX9_size_0 rfl rfl ?_
  refine v_iload_n C dX9_size_1 rfl rfl ?_
  refine v_ci (r_V C (m_noRange_ok l D B K _ r f0 A L I n hM hI0 hn40 i hi) dX9_size_2 hM.1 rfl g_ml_X9_101 g_im_yX9_noRange g_se_X9_yX9_noRange_yX9_noRange g_in_X9 g_cd_yX9_noRange (rn_le (by decide)) (by decide) rfl rfl hdn_yX9_noRange (Nat.le_of_ble_eq_true rfl) ⟨Nat.le_of_ble_eq_true rfl, Nat.le_of_ble_eq_true rfl⟩) (fun r_2 f_2 hp_2 => ?_)
  obtain ⟨rfl, hf9⟩ := hp_2
  have hf9 := hf9.symm
  subst hf9
  refine v_if_eq (tgt := 14) C dX9_size_5 (by decide) (fun _ => ?_) (fun c_5 => absurd c_5 (by decide))
  refine v_aload_n C dX9_size_14 rfl rfl ?_
  refine v_get C dX9_size_15 4 hM.1 rfl in_X9 (by decide) g_fl_X9_19 (fun _ h9 => h9) rfl ?_
  refine v_iload_n C dX9_size_18 rfl rfl ?_
  refine m_lld C hM dX9_size_19 4 i (by decide) (show _ < 40 by omega) rfl ?_
  exact v_lret C hr hlk dX9_size_20 (Nat.le_refl _) (Nat.le_refl _) ⟨rfl, rfl⟩

set_option maxHeartbeats 4000000 in
set_option maxRecDepth 100000 in
theorem m_hold_ok (l : Launch) (D : va_G) (B : Nat) (K : Nat → ClassId) (f : St) (r : Nat → Nat) (f0 : St) (A : Nat → Nat → Int32) (L : Nat → Nat → Int64) (I : Nat → Int32) (hM : MC K r f0 f A L I) (j : Nat) (v : Int64) (hj : j < 8) (hin9 : ¬ inM (nI j).toInt64 0 7 = 0) : Kc l D B K yX9_hold cX9_hold 6 ((some .long)) 4 0 0 [.ref (r 0), .int (nI j), .long v] f (Ql_ D B (fun x f9 => x = L 11 j ∧ MC K r f0 f9 A (up1 L 11 (vp_updL (L 11) j v)) (up1 I 21 0))) := by
  refine v_met [(0, .ref (r 0)), (1, .int (nI j)), (2, .long v)] (by decide) (Nat.le_of_ble_eq_true rfl) rfl ?_
  intro p e s m args below meth c C hr hlk hin
  refine v_aload_n C dX9_hold_0 rfl rfl ?_
  refine v_iload_n C dX9_hold_1 rfl rfl ?_
  refine v_i2l C dX9_hold_2 ?_
  refine v_lconst (v := 0) C dX9_hold_3 (by decide) ?_
  refine v_ldc2 C dX9_hold_4 g_kl_X9_118 ?_
  refine v_ci (r_S C (m_in l D B K _ _ _ _) dX9_hold_7 g_ml_X9_58 g_st_yX9_in g_in_X9 g_cd_yX9_in (rn_le (by decide)) (by decide) rfl hdn_yX9_in (Nat.le_of_ble_eq_true rfl) ⟨Nat.le_of_ble_eq_true rfl, Nat.le_of_ble_eq_true rfl⟩) (fun r_7 f_7 hp_7 => ?_)
  obtain ⟨rfl, hf9⟩ := hp_7
  have hf9 := hf9.symm
  subst hf9
  refine v_if_eq (tgt := 17) C dX9_hold_10 (by decide) (fun c_10 => absurd c_10 hin9) (fun c_10 => ?_)
  refine v_iconst (v := 0) C dX9_hold_13 (by decide) ?_
  refine v_goto (tgt := 18) C dX9_hold_14 (by decide) ?_
  refine m_put C hM dX9_hold_18 21 (by decide) g_fl_X9_65 (fun f hM => ?_)
  refine v_aload_n C dX9_hold_21 rfl rfl ?_
  refine v_get C dX9_hold_22 21 hM.1 rfl in_X9 (by decide) g_fl_X9_65 (fun _ h9 => h9) rfl ?_
  refine v_if_le (tgt := 30) C dX9_hold_25 (by decide) (fun c_25 => ?_) (fun c_25 => absurd (show (0 : Int32) ≤ 0 by decide) c_25)
  refine v_aload_n C dX9_hold_30 rfl rfl ?_
  refine v_get C dX9_hold_31 11 hM.1 rfl in_X9 (by decide) g_fl_X9_42 (fun _ h9 => h9) rfl ?_
  refine v_iload_n C dX9_hold_34 rfl rfl ?_
  refine m_lld C hM dX9_hold_35 11 j (by decide) (show _ < 8 by omega) rfl ?_
  refine v_lstore C dX9_hold_36 (by decide) rfl ?_
  refine v_aload_n C dX9_hold_38 rfl rfl ?_
  refine v_get C dX9_hold_39 11 hM.1 rfl in_X9 (by decide) g_fl_X9_42 (fun _ h9 => h9) rfl ?_
  refine v_iload_n C dX9_hold_42 rfl rfl ?_
  refine v_lload_n C dX9_hold_43 rfl rfl ?_
  refine m_lst C hM dX9_hold_44 11 j (by decide) (show _ < 8 by omega) rfl (fun f hM => ?_)
  refine v_lload C dX9_hold_45 rfl ?_
  exact v_lret C hr hlk dX9_hold_47 (Nat.le_refl _) (Nat.le_refl _) ⟨rfl, hM⟩

set_option maxHeartbeats 4000000 in
set_option maxRecDepth 100000 in
theorem m_hold_bad (l : Launch) (D : va_G) (B : Nat) (K : Nat → ClassId) (f : St) (r : Nat → Nat) (f0 : St) (A : Nat → Nat → Int32) (L : Nat → Nat → Int64) (I : Nat → Int32) (hM : MC K r f0 f A L I) (x : Int32) (v : Int64) (hx : inM x.toInt64 0 7 = 0) : Kc l D B K yX9_hold cX9_hold 6 ((some .long)) 4 0 0 [.ref (r 0), .int x, .long v] f (Ql_ D B (fun x f9 => MC K r f0 f9 A L (up1 I 21 1))) := by
  refine v_met [(0, .ref (r 0)), (1, .int x), (2, .long v)] (by decide) (Nat.le_of_ble_eq_true rfl) rfl ?_
  intro p e s m args below meth c C hr hlk hin
  refine v_aload_n C dX9_hold_0 rfl rfl ?_
  refine v_iload_n C dX9_hold_1 rfl rfl ?_
  refine v_i2l C dX9_hold_2 ?_
  refine v_lconst (v := 0) C dX9_hold_3 (by decide) ?_
  refine v_ldc2 C dX9_hold_4 g_kl_X9_118 ?_
  refine v_ci (r_S C (m_in l D B K _ _ _ _) dX9_hold_7 g_ml_X9_58 g_st_yX9_in g_in_X9 g_cd_yX9_in (rn_le (by decide)) (by decide) rfl hdn_yX9_in (Nat.le_of_ble_eq_true rfl) ⟨Nat.le_of_ble_eq_true rfl, Nat.le_of_ble_eq_true rfl⟩) (fun r_7 f_7 hp_7 => ?_)
  obtain ⟨rfl, hf9⟩ := hp_7
  have hf9 := hf9.symm
  subst hf9
  refine v_if_eq (tgt := 17) C dX9_hold_10 (by decide) (fun c_10 => ?_) (fun c_10 => absurd hx c_10)
  refine v_iconst (v := 1) C dX9_hold_17 (by decide) ?_
  refine m_put C hM dX9_hold_18 21 (by decide) g_fl_X9_65 (fun f hM => ?_)
  refine v_aload_n C dX9_hold_21 rfl rfl ?_
  refine v_get C dX9_hold_22 21 hM.1 rfl in_X9 (by decide) g_fl_X9_65 (fun _ h9 => h9) rfl ?_
  refine v_if_le (tgt := 30) C dX9_hold_25 (by decide) (fun c_25 => absurd c_25 (show ¬ (1 : Int32) ≤ 0 by decide)) (fun c_25 => ?_)
  refine v_lconst (v := 0) C dX9_hold_28 (by decide) ?_
  exact v_lret C hr hlk dX9_hold_29 (Nat.le_refl _) (Nat.le_refl _) hM

set_option maxHeartbeats 4000000 in
set_option maxRecDepth 100000 in
theorem m_held_ok (l : Launch) (D : va_G) (B : Nat) (K : Nat → ClassId) (f : St) (r : Nat → Nat) (f0 : St) (A : Nat → Nat → Int32) (L : Nat → Nat → Int64) (I : Nat → Int32) (hM : MC K r f0 f A L I) (j : Nat) (hj : j < 8) (hin9 : ¬ inM (nI j).toInt64 0 7 = 0) : Kc l D B K yX9_held cX9_held 2 ((some .long)) 4 0 0 [.ref (r 0), .int (nI j)] f (Ql_ D B (fun x f9 => x = L 11 j ∧ MC K r f0 f9 A L (up1 I 21 0))) := by
  refine v_met [(0, .ref (r 0)), (1, .int (nI j))] (by decide) (Nat.le_of_ble_eq_true rfl) rfl ?_
  intro p e s m args below meth c C hr hlk hin
  refine v_aload_n C dX9_held_0 rfl rfl ?_
  refine v_iload_n C dX9_held_1 rfl rfl ?_
  refine v_i2l C dX9_held_2 ?_
  refine v_lconst (v := 0) C dX9_held_3 (by decide) ?_
  refine v_ldc2 C dX9_held_4 g_kl_X9_118 ?_
  refine v_ci (r_S C (m_in l D B K _ _ _ _) dX9_held_7 g_ml_X9_58 g_st_yX9_in g_in_X9 g_cd_yX9_in (rn_le (by decide)) (by decide) rfl hdn_yX9_in (Nat.le_of_ble_eq_true rfl) ⟨Nat.le_of_ble_eq_true rfl, Nat.le_of_ble_eq_true rfl⟩) (fun r_7 f_7 hp_7 => ?_)
  obtain ⟨rfl, hf9⟩ := hp_7
  have hf9 := hf9.symm
  subst hf9
  refine v_if_eq (tgt := 17) C dX9_held_10 (by decide) (fun c_10 => absurd c_10 hin9) (fun c_10 => ?_)
  refine v_iconst (v := 0) C dX9_held_13 (by decide) ?_
  refine v_goto (tgt := 18) C dX9_held_14 (by decide) ?_
  refine m_put C hM dX9_held_18 21 (by decide) g_fl_X9_65 (fun f hM => ?_)
  refine v_aload_n C dX9_held_21 rfl rfl ?_
  refine v_get C dX9_held_22 21 hM.1 rfl in_X9 (by decide) g_fl_X9_65 (fun _ h9 => h9) rfl ?_
  refine v_if_le (tgt := 32) C dX9_held_25 (by decide) (fun c_25 => ?_) (fun c_25 => absurd (show (0 : Int32) ≤ 0 by decide) c_25)
  refine v_aload_n C dX9_held_32 rfl rfl ?_
  refine v_get C dX9_held_33 11 hM.1 rfl in_X9 (by decide) g_fl_X9_42 (fun _ h9 => h9) rfl ?_
  refine v_iload_n C dX9_held_36 rfl rfl ?_
  refine m_lld C hM dX9_held_37 11 j (by decide) (show _ < 8 by omega) rfl ?_
  exact v_lret C hr hlk dX9_held_38 (Nat.le_refl _) (Nat.le_refl _) ⟨rfl, hM⟩

set_option maxHeartbeats 4000000 in
set_option maxRecDepth 100000 in
theorem m_held_bad (l : Launch) (D : va_G) (B : Nat) (K : Nat → ClassId) (f : St) (r : Nat → Nat) (f0 : St) (A : Nat → Nat → Int32) (L : Nat → Nat → Int64) (I : Nat → Int32) (hM : MC K r f0 f A L I) (x : Int32) (hx : inM x.toInt64 0 7 = 0) : Kc l D B K yX9_held cX9_held 2 ((some .long)) 4 0 0 [.ref (r 0), .int x] f (Ql_ D B (fun x f9 => MC K r f0 f9 A L (up1 I 21 1))) := by
  refine v_met [(0, .ref (r 0)), (1, .int x)] (by decide) (Nat.le_of_ble_eq_true rfl) rfl ?_
  intro p e s m args below meth c C hr hlk hin
  refine v_aload_n C dX9_held_0 rfl rfl ?_
  refine v_iload_n C dX9_held_1 rfl rfl ?_
  refine v_i2l C dX9_held_2 ?_
  refine v_lconst (v := 0) C dX9_held_3 (by decide) ?_
  refine v_ldc2 C dX9_held_4 g_kl_X9_118 ?_
  refine v_ci (r_S C (m_in l D B K _ _ _ _) dX9_held_7 g_ml_X9_58 g_st_yX9_in g_in_X9 g_cd_yX9_in (rn_le (by decide)) (by decide) rfl hdn_yX9_in (Nat.le_of_ble_eq_true rfl) ⟨Nat.le_of_ble_eq_true rfl, Nat.le_of_ble_eq_true rfl⟩) (fun r_7 f_7 hp_7 => ?_)
  obtain ⟨rfl, hf9⟩ := hp_7
  have hf9 := hf9.symm
  subst hf9
  refine v_if_eq (tgt := 17) C dX9_held_10 (by decide) (fun c_10 => ?_) (fun c_10 => absurd hx c_10)
  refine v_iconst (v := 1) C dX9_held_17 (by decide) ?_
  refine m_put C hM dX9_held_18 21 (by decide) g_fl_X9_65 (fun f hM => ?_)
  refine v_aload_n C dX9_held_21 rfl rfl ?_
  refine v_get C dX9_held_22 21 hM.1 rfl in_X9 (by decide) g_fl_X9_65 (fun _ h9 => h9) rfl ?_
  refine v_if_le (tgt := 32) C dX9_held_25 (by decide) (fun c_25 => absurd c_25 (show ¬ (1 : Int32) ≤ 0 by decide)) (fun c_25 => ?_)
  refine v_lconst (v := 0) C dX9_held_28 (by decide) ?_
  refine v_goto (tgt := 38) C dX9_held_29 (by decide) ?_
  exact v_lret C hr hlk dX9_held_38 (Nat.le_refl _) (Nat.le_refl _) hM

set_option maxHeartbeats 4000000 in
set_option maxRecDepth 100000 in
theorem m_index_bad (l : Launch) (D : va_G) (B : Nat) (K : Nat → ClassId) (f : St) (r : Nat → Nat) (f0 : St) (A : Nat → Nat → Int32) (L : Nat → Nat → Int64) (I : Nat → Int32) (n : Nat) (hM : MC K r f0 f A L I) (hI0 : I 0 = nI n) (hn40 : n ≤ 40) (x : Int32) (hx : x < 0 ∨ nI n ≤ x) : Kc l D B K yX9_index cX9_index 2 ((some .long)) 4 0 0 [.ref (r 0), .int x] f (Ql_ D B (fun x f9 => x = -1000000101 ∧ MC K r f0 f9 A L (up1 I 21 0))) := by
  refine v_met [(0, .ref (r 0)), (1, .int x)] (by decide) (Nat.le_of_ble_eq_true rfl) rfl ?_
  intro p e s m args below meth c C hr hlk hin
  refine v_aload_n C dX9_index_0 rfl rfl ?_
  refine v_iconst (v := 0) C dX9_index_1 (by decide) ?_
  refine m_put C hM dX9_index_2 21 (by decide) g_fl_X9_65 (fun f hM => ?_)
  refine v_aload_n C dX9_index_5 rfl rfl ?_
  refine v_iload_n C dX9_index_6 rfl rfl ?_
  refine v_ci (r_V C (m_noRange_bad l D B K _ r f0 A L (up1 I 21 0) n hM hI0 hn40 x hx) dX9_index_7 hM.1 rfl g_ml_X9_101 g_im_yX9_noRange g_se_X9_yX9_noRange_yX9_noRange g_in_X9 g_cd_yX9_noRange (rn_le (by decide)) (by decide) rfl rfl hdn_yX9_noRange (Nat.le_of_ble_eq_true rfl) ⟨Nat.le_of_ble_eq_true rfl, Nat.le_of_ble_eq_true rfl⟩) (fun r_7 f_7 hp_7 => ?_)
  obtain ⟨rfl, hf9⟩ := hp_7
  have hf9 := hf9.symm
  subst hf9
  refine v_if_eq (tgt := 17) C dX9_index_10 (by decide) (fun c_10 => absurd c_10 (by decide)) (fun _ => ?_)
  refine v_ldc2 C dX9_index_13 g_kl_X9_116 ?_
  exact v_lret C hr hlk dX9_index_16 (Nat.le_refl _) (Nat.le_refl _) ⟨rfl, hM⟩

set_option maxHeartbeats 4000000 in
set_option maxRecDepth 100000 in
theorem m_index_miss (l : Launch) (D : va_G) (B : Nat) (K : Nat → ClassId) (f : St) (r : Nat → Nat) (f0 : St) (A : Nat → Nat → Int32) (L : Nat → Nat → Int64) (I : Nat → Int32) (n : Nat) (hM : MC K r f0 f A L I) (hI0 : I 0 = nI n) (hn40 : n ≤ 40) (sg : Nat → Sg) (l9 : List Ent) (i : Nat) (hi : i < n) (hrow : RowM A L sg l9 i n) (k9 : Nat) (e9 : Ent) (hm : missE sg (L 11) l9 0 = some (k9, e9)) : Kc l D B K yX9_index cX9_index 2 ((some .long)) 4 0 0 [.ref (r 0), .int (nI i)] f (Ql_ D B (fun x f9 => MC K r f0 f9 A L (up1 (missI (up1 I 21 0) k9 e9) 21 1))) := by
  refine v_met [(0, .ref (r 0)), (1, .int (nI i))] (by decide) (Nat.le_of_ble_eq_true rfl) rfl ?_
  intro p e s m args below meth c C hr hlk hin
  refine v_aload_n C dX9_index_0 rfl rfl ?_
  refine v_iconst (v := 0) C dX9_index_1 (by decide) ?_
  refine m_put C hM dX9_index_2 21 (by decide) g_fl_X9_65 (fun f hM => ?_)
  refine v_aload_n C dX9_index_5 rfl rfl ?_
  refine v_iload_n C dX9_index_6 rfl rfl ?_
  refine v_ci (r_V C (m_noRange_ok l D B K _ r f0 A L (up1 I 21 0) n hM hI0 hn40 i hi) dX9_index_7 hM.1 rfl g_ml_X9_101 g_im_yX9_noRange g_se_X9_yX9_noRange_yX9_noRange g_in_X9 g_cd_yX9_noRange (rn_le (by decide)) (by decide) rfl rfl hdn_yX9_noRange (Nat.le_of_ble_eq_true rfl) ⟨Nat.le_of_ble_eq_true rfl, Nat.le_of_ble_eq_true rfl⟩) (fun r_7 f_7 hp_7 => ?_)
  obtain ⟨rfl, hf9⟩ := hp_7
  have hf9 := hf9.symm
  subst hf9
  refine v_if_eq (tgt := 17) C dX9_index_10 (by decide) (fun _ => ?_) (fun c_10 => absurd c_10 (by decide))
  refine v_aload_n C dX9_index_17 rfl rfl ?_
  refine v_iload_n C dX9_index_18 rfl rfl ?_
  refine v_ci (r_V C (m_isHeld_no l D B K _ r f0 A L (up1 I 21 0) sg l9 i n hM hrow (by omega) hn40 k9 e9 hm) dX9_index_19 hM.1 rfl g_ml_X9_147 g_im_yX9_isHeld g_se_X9_yX9_isHeld_yX9_isHeld g_in_X9 g_cd_yX9_isHeld (rn_le (by decide)) (by decide) rfl rfl hdn_yX9_isHeld (Nat.le_of_ble_eq_true rfl) ⟨Nat.le_of_ble_eq_true rfl, Nat.le_of_ble_eq_true rfl⟩) (fun r_19 f_19 hp_19 => ?_)
  obtain ⟨rfl, hM⟩ := hp_19
  refine v_if_ne (tgt := 32) C dX9_index_22 (by decide) (fun c_22 => absurd c_22 (by decide)) (fun _ => ?_)
  refine v_aload_n C dX9_index_25 rfl rfl ?_
  refine v_iconst (v := 1) C dX9_index_26 (by decide) ?_
  refine m_put C hM dX9_index_27 21 (by decide) g_fl_X9_65 (fun f hM => ?_)
  refine v_lconst (v := 0) C dX9_index_30 (by decide) ?_
  exact v_lret C hr hlk dX9_index_31 (Nat.le_refl _) (Nat.le_refl _) hM

set_option maxHeartbeats 4000000 in
set_option maxRecDepth 100000 in
theorem m_index_ok (l : Launch) (D : va_G) (B : Nat) (K : Nat → ClassId) (f : St) (r : Nat → Nat) (f0 : St) (A : Nat → Nat → Int32) (L : Nat → Nat → Int64) (I : Nat → Int32) (n : Nat) (hM : MC K r f0 f A L I) (hI0 : I 0 = nI n) (hn40 : n ≤ 40) (sg : Nat → Sg) (l9 : List Ent) (i : Nat) (hi : i < n) (hrow : RowM A L sg l9 i n) (hti : ∀ e ∈ l9, e.2.1 = true → cntS (sg e.1) < 9223372036854775808) (hm : missE sg (L 11) l9 0 = none) : Kc l D B K yX9_index cX9_index 2 ((some .long)) 4 0 0 [.ref (r 0), .int (nI i)] f (Ql_ D B (fun x f9 => x = sat (idxE sg (L 11) l9 0 0) ∧ MC K r f0 f9 A L (up1 I 21 0))) := by
  refine v_met [(0, .ref (r 0)), (1, .int (nI i))] (by decide) (Nat.le_of_ble_eq_true rfl) rfl ?_
  intro p e s m args below meth c C hr hlk hin
  refine v_aload_n C dX9_index_0 rfl rfl ?_
  refine v_iconst (v := 0) C dX9_index_1 (by decide) ?_
  refine m_put C hM dX9_index_2 21 (by decide) g_fl_X9_65 (fun f hM => ?_)
  refine v_aload_n C dX9_index_5 rfl rfl ?_
  refine v_iload_n C dX9_index_6 rfl rfl ?_
  refine v_ci (r_V C (m_noRange_ok l D B K _ r f0 A L (up1 I 21 0) n hM hI0 hn40 i hi) dX9_index_7 hM.1 rfl g_ml_X9_101 g_im_yX9_noRange g_se_X9_yX9_noRange_yX9_noRange g_in_X9 g_cd_yX9_noRange (rn_le (by decide)) (by decide) rfl rfl hdn_yX9_noRange (Nat.le_of_ble_eq_true rfl) ⟨Nat.le_of_ble_eq_true rfl, Nat.le_of_ble_eq_true rfl⟩) (fun r_7 f_7 hp_7 => ?_)
  obtain ⟨rfl, hf9⟩ := hp_7
  have hf9 := hf9.symm
  subst hf9
  refine v_if_eq (tgt := 17) C dX9_index_10 (by decide) (fun _ => ?_) (fun c_10 => absurd c_10 (by decide))
  refine v_aload_n C dX9_index_17 rfl rfl ?_
  refine v_iload_n C dX9_index_18 rfl rfl ?_
  refine v_ci (r_V C (m_isHeld_yes l D B K _ r f0 A L (up1 I 21 0) sg l9 i n hM hrow (by omega) hn40 hm) dX9_index_19 hM.1 rfl g_ml_X9_147 g_im_yX9_isHeld g_se_X9_yX9_isHeld_yX9_isHeld g_in_X9 g_cd_yX9_isHeld (rn_le (by decide)) (by decide) rfl rfl hdn_yX9_isHeld (Nat.le_of_ble_eq_true rfl) ⟨Nat.le_of_ble_eq_true rfl, Nat.le_of_ble_eq_true rfl⟩) (fun r_19 f_19 hp_19 => ?_)
  obtain ⟨rfl, hf9⟩ := hp_19
  have hf9 := hf9.symm
  subst hf9
  refine v_if_ne (tgt := 32) C dX9_index_22 (by decide) (fun _ => ?_) (fun c_22 => absurd c_22 (by decide))
  refine v_aload_n C dX9_index_32 rfl rfl ?_
  refine v_iload_n C dX9_index_33 rfl rfl ?_
  refine v_cl (r_V C (m_place l D B K _ r f0 A L (up1 I 21 0) sg l9 i n hM hrow (by omega) hn40 hti hm) dX9_index_34 hM.1 rfl g_ml_X9_150 g_im_yX9_place g_se_X9_yX9_place_yX9_place g_in_X9 g_cd_yX9_place (rn_le (by decide)) (by decide) rfl rfl hdn_yX9_place (Nat.le_of_ble_eq_true rfl) ⟨Nat.le_of_ble_eq_true rfl, Nat.le_of_ble_eq_true rfl⟩) (fun r_34 f_34 hp_34 => ?_)
  obtain ⟨rfl, hf9⟩ := hp_34
  have hf9 := hf9.symm
  subst hf9
  exact v_lret C hr hlk dX9_index_37 (Nat.le_refl _) (Nat.le_refl _) ⟨rfl, hM⟩

set_option maxHeartbeats 4000000 in
set_option maxRecDepth 100000 in
theorem m_has_bad (l : Launch) (D : va_G) (B : Nat) (K : Nat → ClassId) (f : St) (r : Nat → Nat) (f0 : St) (A : Nat → Nat → Int32) (L : Nat → Nat → Int64) (I : Nat → Int32) (n : Nat) (hM : MC K r f0 f A L I) (hI0 : I 0 = nI n) (hn40 : n ≤ 40) (x : Int32) (hx : x < 0 ∨ nI n ≤ x) : Kc l D B K yX9_has cX9_has 2 ((some .int)) 4 0 0 [.ref (r 0), .int x] f (Qi_ D B (fun x f9 => x = -101 ∧ f9 = f)) := by
  refine v_met [(0, .ref (r 0)), (1, .int x)] (by decide) (Nat.le_of_ble_eq_true rfl) rfl ?_
  intro p e s m args below meth c C hr hlk hin
  refine v_aload_n C dX9_has_0 rfl rfl ?_
  refine v_iload_n C dX9_has_1 rfl rfl ?_
  refine v_ci (r_V C (m_noRange_bad l D B K _ r f0 A L I n hM hI0 hn40 x hx) dX9_has_2 hM.1 rfl g_ml_X9_101 g_im_yX9_noRange g_se_X9_yX9_noRange_yX9_noRange g_in_X9 g_cd_yX9_noRange (rn_le (by decide)) (by decide) rfl rfl hdn_yX9_noRange (Nat.le_of_ble_eq_true rfl) ⟨Nat.le_of_ble_eq_true rfl, Nat.le_of_ble_eq_true rfl⟩) (fun r_2 f_2 hp_2 => ?_)
  obtain ⟨rfl, hf9⟩ := hp_2
  have hf9 := hf9.symm
  subst hf9
  refine v_if_eq (tgt := 13) C dX9_has_5 (by decide) (fun c_5 => absurd c_5 (by decide)) (fun _ => ?_)
  refine v_bipush (v := (-101)) C dX9_has_8 (by decide) ?_
  refine v_goto (tgt := 26) C dX9_has_10 (by decide) ?_
  exact v_iret C hr hlk dX9_has_26 (Nat.le_refl _) (Nat.le_refl _) ⟨rfl, rfl⟩

set_option maxHeartbeats 4000000 in
set_option maxRecDepth 100000 in
theorem m_has_no (l : Launch) (D : va_G) (B : Nat) (K : Nat → ClassId) (f : St) (r : Nat → Nat) (f0 : St) (A : Nat → Nat → Int32) (L : Nat → Nat → Int64) (I : Nat → Int32) (n : Nat) (hM : MC K r f0 f A L I) (hI0 : I 0 = nI n) (hn40 : n ≤ 40) (sg : Nat → Sg) (l9 : List Ent) (i : Nat) (hi : i < n) (hrow : RowM A L sg l9 i n) (k9 : Nat) (e9 : Ent) (hm : missE sg (L 11) l9 0 = some (k9, e9)) : Kc l D B K yX9_has cX9_has 2 ((some .int)) 4 0 0 [.ref (r 0), .int (nI i)] f (Qi_ D B (fun x f9 => x = 0 ∧ MC K r f0 f9 A L (missI I k9 e9))) := by
  refine v_met [(0, .ref (r 0)), (1, .int (nI i))] (by decide) (Nat.le_of_ble_eq_true rfl) rfl ?_
  intro p e s m args below meth c C hr hlk hin
  refine v_aload_n C dX9_has_0 rfl rfl ?_
  refine v_iload_n C dX9_has_1 rfl rfl ?_
  refine v_ci (r_V C (m_noRange_ok l D B K _ r f0 A L I n hM hI0 hn40 i hi) dX9_has_2 hM.1 rfl g_ml_X9_101 g_im_yX9_noRange g_se_X9_yX9_noRange_yX9_noRange g_in_X9 g_cd_yX9_noRange (rn_le (by decide)) (by decide) rfl rfl hdn_yX9_noRange (Nat.le_of_ble_eq_true rfl) ⟨Nat.le_of_ble_eq_true rfl, Nat.le_of_ble_eq_true rfl⟩) (fun r_2 f_2 hp_2 => ?_)
  obtain ⟨rfl, hf9⟩ := hp_2
  have hf9 := hf9.symm
  subst hf9
  refine v_if_eq (tgt := 13) C dX9_has_5 (by decide) (fun _ => ?_) (fun c_5 => absurd c_5 (by decide))
  refine v_aload_n C dX9_has_13 rfl rfl ?_
  refine v_iload_n C dX9_has_14 rfl rfl ?_
  refine v_ci (r_V C (m_isHeld_no l D B K _ r f0 A L I sg l9 i n hM hrow (by omega) hn40 k9 e9 hm) dX9_has_15 hM.1 rfl g_ml_X9_147 g_im_yX9_isHeld g_se_X9_yX9_isHeld_yX9_isHeld g_in_X9 g_cd_yX9_isHeld (rn_le (by decide)) (by decide) rfl rfl hdn_yX9_isHeld (Nat.le_of_ble_eq_true rfl) ⟨Nat.le_of_ble_eq_true rfl, Nat.le_of_ble_eq_true rfl⟩) (fun r_15 f_15 hp_15 => ?_)
  obtain ⟨rfl, hM⟩ := hp_15
  refine v_if_eq (tgt := 25) C dX9_has_18 (by decide) (fun _ => ?_) (fun c_18 => absurd c_18 (by decide))
  refine v_iconst (v := 0) C dX9_has_25 (by decide) ?_
  exact v_iret C hr hlk dX9_has_26 (Nat.le_refl _) (Nat.le_refl _) ⟨rfl, hM⟩

set_option maxHeartbeats 4000000 in
set_option maxRecDepth 100000 in
theorem m_has_yes (l : Launch) (D : va_G) (B : Nat) (K : Nat → ClassId) (f : St) (r : Nat → Nat) (f0 : St) (A : Nat → Nat → Int32) (L : Nat → Nat → Int64) (I : Nat → Int32) (n : Nat) (hM : MC K r f0 f A L I) (hI0 : I 0 = nI n) (hn40 : n ≤ 40) (sg : Nat → Sg) (l9 : List Ent) (i : Nat) (hi : i < n) (hrow : RowM A L sg l9 i n) (hm : missE sg (L 11) l9 0 = none) : Kc l D B K yX9_has cX9_has 2 ((some .int)) 4 0 0 [.ref (r 0), .int (nI i)] f (Qi_ D B (fun x f9 => x = 1 ∧ f9 = f)) := by
  refine v_met [(0, .ref (r 0)), (1, .int (nI i))] (by decide) (Nat.le_of_ble_eq_true rfl) rfl ?_
  intro p e s m args below meth c C hr hlk hin
  refine v_aload_n C dX9_has_0 rfl rfl ?_
  refine v_iload_n C dX9_has_1 rfl rfl ?_
  refine v_ci (r_V C (m_noRange_ok l D B K _ r f0 A L I n hM hI0 hn40 i hi) dX9_has_2 hM.1 rfl g_ml_X9_101 g_im_yX9_noRange g_se_X9_yX9_noRange_yX9_noRange g_in_X9 g_cd_yX9_noRange (rn_le (by decide)) (by decide) rfl rfl hdn_yX9_noRange (Nat.le_of_ble_eq_true rfl) ⟨Nat.le_of_ble_eq_true rfl, Nat.le_of_ble_eq_true rfl⟩) (fun r_2 f_2 hp_2 => ?_)
  obtain ⟨rfl, hf9⟩ := hp_2
  have hf9 := hf9.symm
  subst hf9
  refine v_if_eq (tgt := 13) C dX9_has_5 (by decide) (fun _ => ?_) (fun c_5 => absurd c_5 (by decide))
  refine v_aload_n C dX9_has_13 rfl rfl ?_
  refine v_iload_n C dX9_has_14 rfl rfl ?_
  refine v_ci (r_V C (m_isHeld_yes l D B K _ r f0 A L I sg l9 i n hM hrow (by omega) hn40 hm) dX9_has_15 hM.1 rfl g_ml_X9_147 g_im_yX9_isHeld g_se_X9_yX9_isHeld_yX9_isHeld g_in_X9 g_cd_yX9_isHeld (rn_le (by decide)) (by decide) rfl rfl hdn_yX9_isHeld (Nat.le_of_ble_eq_true rfl) ⟨Nat.le_of_ble_eq_true rfl, Nat.le_of_ble_eq_true rfl⟩) (fun r_15 f_15 hp_15 => ?_)
  obtain ⟨rfl, hf9⟩ := hp_15
  have hf9 := hf9.symm
  subst hf9
  refine v_if_eq (tgt := 25) C dX9_has_18 (by decide) (fun c_18 => absurd c_18 (by decide)) (fun _ => ?_)
  refine v_iconst (v := 1) C dX9_has_21 (by decide) ?_
  refine v_goto (tgt := 26) C dX9_has_22 (by decide) ?_
  exact v_iret C hr hlk dX9_has_26 (Nat.le_refl _) (Nat.le_refl _) ⟨rfl, rfl⟩

theorem hp_rch (sz k : Int64) : hpM sz k = rchC sz k := rfl
theorem hp_yes {P : Nat} {k : Int64} (h : rchS P k) : hpM (sat P) k = 1 := by
  have h1 : ¬ rchC (sat P) k = 0 := fun h9 => (rch_eq P k).mp h9 h
  rw [hp_rch]
  unfold rchC at h1 ⊢
  split at h1
  · exact absurd rfl h1
  · rename_i c1
    rw [if_neg c1]
    split at h1
    · rename_i c2
      rw [if_pos c2]
    · rename_i c2
      rw [if_neg c2]
      split at h1
      · exact absurd rfl h1
      · rename_i c3
        rw [if_neg c3]
theorem hp_no {P : Nat} {k : Int64} (h : ¬ rchS P k) : hpM (sat P) k = 0 := (rch_eq P k).mpr h
set_option maxHeartbeats 4000000 in
set_option maxRecDepth 100000 in
theorem m_element_bad (l : Launch) (D : va_G) (B : Nat) (K : Nat → ClassId) (f : St) (r : Nat → Nat) (f0 : St) (A : Nat → Nat → Int32) (L : Nat → Nat → Int64) (I : Nat → Int32) (n : Nat) (hM : MC K r f0 f A L I) (hI0 : I 0 = nI n) (hn40 : n ≤ 40) (x : Int32) (hx : x < 0 ∨ nI n ≤ x) (k : Int64) : Kc l D B K yX9_element cX9_element 4 ((some .int)) 4 0 0 [.ref (r 0), .int x, .long k] f (Qi_ D B (fun x f9 => x = -101 ∧ MC K r f0 f9 A L (up1 I 21 0))) := by
  refine v_met [(0, .ref (r 0)), (1, .int x), (2, .long k)] (by decide) (Nat.le_of_ble_eq_true rfl) rfl ?_
  intro p e s m args below meth c C hr hlk hin
  refine v_aload_n C dX9_element_0 rfl rfl ?_
  refine v_iconst (v := 0) C dX9_element_1 (by decide) ?_
  refine m_put C hM dX9_element_2 21 (by decide) g_fl_X9_65 (fun f hM => ?_)
  refine v_aload_n C dX9_element_5 rfl rfl ?_
  refine v_iload_n C dX9_element_6 rfl rfl ?_
  refine v_ci (r_V C (m_noRange_bad l D B K _ r f0 A L (up1 I 21 0) n hM hI0 hn40 x hx) dX9_element_7 hM.1 rfl g_ml_X9_101 g_im_yX9_noRange g_se_X9_yX9_noRange_yX9_noRange g_in_X9 g_cd_yX9_noRange (rn_le (by decide)) (by decide) rfl rfl hdn_yX9_noRange (Nat.le_of_ble_eq_true rfl) ⟨Nat.le_of_ble_eq_true rfl, Nat.le_of_ble_eq_true rfl⟩) (fun r_7 f_7 hp_7 => ?_)
  obtain ⟨rfl, hf9⟩ := hp_7
  have hf9 := hf9.symm
  subst hf9
  refine v_if_eq (tgt := 16) C dX9_element_10 (by decide) (fun c_10 => absurd c_10 (by decide)) (fun _ => ?_)
  refine v_bipush (v := (-101)) C dX9_element_13 (by decide) ?_
  exact v_iret C hr hlk dX9_element_15 (Nat.le_refl _) (Nat.le_refl _) ⟨rfl, hM⟩

set_option maxHeartbeats 4000000 in
set_option maxRecDepth 100000 in
theorem m_element_no (l : Launch) (D : va_G) (B : Nat) (K : Nat → ClassId) (f : St) (r : Nat → Nat) (f0 : St) (A : Nat → Nat → Int32) (L : Nat → Nat → Int64) (I : Nat → Int32) (n : Nat) (hM : MC K r f0 f A L I) (hI0 : I 0 = nI n) (hn40 : n ≤ 40) (sg : Nat → Sg) (l9 : List Ent) (i : Nat) (hi : i < n) (hrow : RowM A L sg l9 i n) (hz : L 4 i = sat (prodE sg l9)) (k : Int64) (hk : ¬ rchS (prodE sg l9) k) : Kc l D B K yX9_element cX9_element 4 ((some .int)) 4 0 0 [.ref (r 0), .int (nI i), .long k] f (Qi_ D B (fun x f9 => MC K r f0 f9 A L (up1 (up1 I 21 0) 21 1))) := by
  refine v_met [(0, .ref (r 0)), (1, .int (nI i)), (2, .long k)] (by decide) (Nat.le_of_ble_eq_true rfl) rfl ?_
  intro p e s m args below meth c C hr hlk hin
  refine v_aload_n C dX9_element_0 rfl rfl ?_
  refine v_iconst (v := 0) C dX9_element_1 (by decide) ?_
  refine m_put C hM dX9_element_2 21 (by decide) g_fl_X9_65 (fun f hM => ?_)
  refine v_aload_n C dX9_element_5 rfl rfl ?_
  refine v_iload_n C dX9_element_6 rfl rfl ?_
  refine v_ci (r_V C (m_noRange_ok l D B K _ r f0 A L (up1 I 21 0) n hM hI0 hn40 i hi) dX9_element_7 hM.1 rfl g_ml_X9_101 g_im_yX9_noRange g_se_X9_yX9_noRange_yX9_noRange g_in_X9 g_cd_yX9_noRange (rn_le (by decide)) (by decide) rfl rfl hdn_yX9_noRange (Nat.le_of_ble_eq_true rfl) ⟨Nat.le_of_ble_eq_true rfl, Nat.le_of_ble_eq_true rfl⟩) (fun r_7 f_7 hp_7 => ?_)
  obtain ⟨rfl, hf9⟩ := hp_7
  have hf9 := hf9.symm
  subst hf9
  refine v_if_eq (tgt := 16) C dX9_element_10 (by decide) (fun _ => ?_) (fun c_10 => absurd c_10 (by decide))
  refine v_aload_n C dX9_element_16 rfl rfl ?_
  refine v_iload_n C dX9_element_17 rfl rfl ?_
  refine v_lload_n C dX9_element_18 rfl rfl ?_
  refine v_ci (r_V C (m_hasPlace0 l D B K _ r f0 A L (up1 I 21 0) i _ hM (by omega)) dX9_element_19 hM.1 rfl g_ml_X9_153 g_im_yX9_hasPlace g_se_X9_yX9_hasPlace_yX9_hasPlace g_in_X9 g_cd_yX9_hasPlace (rn_le (by decide)) (by decide) rfl rfl hdn_yX9_hasPlace (Nat.le_of_ble_eq_true rfl) ⟨Nat.le_of_ble_eq_true rfl, Nat.le_of_ble_eq_true rfl⟩) (fun r_19 f_19 hp_19 => ?_)
  obtain ⟨rfl, hf9⟩ := hp_19
  have hf9 := hf9.symm
  subst hf9
  refine v_ri (show _ = 0 by rw [hz]; exact hp_no hk) ?_
  refine v_if_ne (tgt := 32) C dX9_element_22 (by decide) (fun c_22 => absurd c_22 (by decide)) (fun _ => ?_)
  refine v_aload_n C dX9_element_25 rfl rfl ?_
  refine v_iconst (v := 1) C dX9_element_26 (by decide) ?_
  refine m_put C hM dX9_element_27 21 (by decide) g_fl_X9_65 (fun f hM => ?_)
  refine v_iconst (v := 0) C dX9_element_30 (by decide) ?_
  exact v_iret C hr hlk dX9_element_31 (Nat.le_refl _) (Nat.le_refl _) hM

set_option maxHeartbeats 4000000 in
set_option maxRecDepth 100000 in
theorem m_element_ok (l : Launch) (D : va_G) (B : Nat) (K : Nat → ClassId) (f : St) (r : Nat → Nat) (f0 : St) (A : Nat → Nat → Int32) (L : Nat → Nat → Int64) (I : Nat → Int32) (n : Nat) (hM : MC K r f0 f A L I) (hI0 : I 0 = nI n) (hn40 : n ≤ 40) (sg : Nat → Sg) (l9 : List Ent) (i : Nat) (hi : i < n) (hrow : RowM A L sg l9 i n) (hti : ∀ e ∈ l9, e.2.1 = true → cntS (sg e.1) < 9223372036854775808) (hz : L 4 i = sat (prodE sg l9)) (k : Int64) (hk : rchS (prodE sg l9) k) : Kc l D B K yX9_element cX9_element 4 ((some .int)) 4 0 0 [.ref (r 0), .int (nI i), .long k] f (Qi_ D B (fun x f9 => x = nI l9.length ∧ MC K r f0 f9 A (up1 L 11 (filG sg l9 0 k.toInt.toNat (L 11))) (up1 I 21 0))) := by
  refine v_met [(0, .ref (r 0)), (1, .int (nI i)), (2, .long k)] (by decide) (Nat.le_of_ble_eq_true rfl) rfl ?_
  intro p e s m args below meth c C hr hlk hin
  have hk3 := l_of_pos hk.1
  refine v_aload_n C dX9_element_0 rfl rfl ?_
  refine v_iconst (v := 0) C dX9_element_1 (by decide) ?_
  refine m_put C hM dX9_element_2 21 (by decide) g_fl_X9_65 (fun f hM => ?_)
  refine v_aload_n C dX9_element_5 rfl rfl ?_
  refine v_iload_n C dX9_element_6 rfl rfl ?_
  refine v_ci (r_V C (m_noRange_ok l D B K _ r f0 A L (up1 I 21 0) n hM hI0 hn40 i hi) dX9_element_7 hM.1 rfl g_ml_X9_101 g_im_yX9_noRange g_se_X9_yX9_noRange_yX9_noRange g_in_X9 g_cd_yX9_noRange (rn_le (by decide)) (by decide) rfl rfl hdn_yX9_noRange (Nat.le_of_ble_eq_true rfl) ⟨Nat.le_of_ble_eq_true rfl, Nat.le_of_ble_eq_true rfl⟩) (fun r_7 f_7 hp_7 => ?_)
  obtain ⟨rfl, hf9⟩ := hp_7
  have hf9 := hf9.symm
  subst hf9
  refine v_if_eq (tgt := 16) C dX9_element_10 (by decide) (fun _ => ?_) (fun c_10 => absurd c_10 (by decide))
  refine v_aload_n C dX9_element_16 rfl rfl ?_
  refine v_iload_n C dX9_element_17 rfl rfl ?_
  refine v_lload_n C dX9_element_18 rfl rfl ?_
  refine v_ci (r_V C (m_hasPlace0 l D B K _ r f0 A L (up1 I 21 0) i _ hM (by omega)) dX9_element_19 hM.1 rfl g_ml_X9_153 g_im_yX9_hasPlace g_se_X9_yX9_hasPlace_yX9_hasPlace g_in_X9 g_cd_yX9_hasPlace (rn_le (by decide)) (by decide) rfl rfl hdn_yX9_hasPlace (Nat.le_of_ble_eq_true rfl) ⟨Nat.le_of_ble_eq_true rfl, Nat.le_of_ble_eq_true rfl⟩) (fun r_19 f_19 hp_19 => ?_)
  obtain ⟨rfl, hf9⟩ := hp_19
  have hf9 := hf9.symm
  subst hf9
  refine v_ri (show _ = 1 by rw [hz]; exact hp_yes hk) ?_
  refine v_if_ne (tgt := 32) C dX9_element_22 (by decide) (fun _ => ?_) (fun c_22 => absurd c_22 (by decide))
  refine v_aload_n C dX9_element_32 rfl rfl ?_
  refine v_iload_n C dX9_element_33 rfl rfl ?_
  refine v_lload_n C dX9_element_34 rfl rfl ?_
  refine v_rl hk3.1 ?_
  refine v_aload_n C dX9_element_35 rfl rfl ?_
  refine v_get C dX9_element_36 11 hM.1 rfl in_X9 (by decide) g_fl_X9_42 (fun _ h9 => h9) rfl ?_
  refine v_cv (r_V C (m_lay11 l D B K _ r f0 A L (up1 I 21 0) sg l9 i n hM hrow (by omega) hn40 hti k.toInt.toNat hk.2 hk3.2) dX9_element_39 hM.1 rfl g_ml_X9_156 g_im_yX9_lay g_se_X9_yX9_lay_yX9_lay g_in_X9 g_cd_yX9_lay (rn_le (by decide)) (by decide) rfl rfl hdn_yX9_lay (Nat.le_of_ble_eq_true rfl) ⟨Nat.le_of_ble_eq_true rfl, Nat.le_of_ble_eq_true rfl⟩) (fun f_39 hp_39 => ?_)
  have hM := hp_39
  refine v_aload_n C dX9_element_42 rfl rfl ?_
  refine v_get C dX9_element_43 3 hM.1 rfl in_X9 (by decide) g_fl_X9_16 (fun _ h9 => h9) rfl ?_
  refine v_iload_n C dX9_element_46 rfl rfl ?_
  refine m_ild C hM dX9_element_47 3 i (by decide) (show _ < 40 by omega) rfl ?_
  refine v_ri hrow.1 ?_
  exact v_iret C hr hlk dX9_element_48 (Nat.le_refl _) (Nat.le_refl _) ⟨rfl, hM⟩

set_option maxHeartbeats 4000000 in
set_option maxRecDepth 100000 in
theorem m_go_bad (l : Launch) (D : va_G) (B : Nat) (K : Nat → ClassId) (f : St) (r : Nat → Nat) (f0 : St) (A : Nat → Nat → Int32) (L : Nat → Nat → Int64) (I : Nat → Int32) (n : Nat) (hM : MC K r f0 f A L I) (hI0 : I 0 = nI n) (hn40 : n ≤ 40) (x : Int32) (hx : x < 0 ∨ nI n ≤ x) (k : Int64) : Kc l D B K yX9_go cX9_go 6 ((some .long)) 4 0 0 [.ref (r 0), .int x, .long k] f (Ql_ D B (fun x f9 => x = -1000000101 ∧ MC K r f0 f9 A L (up1 I 21 0))) := by
  refine v_met [(0, .ref (r 0)), (1, .int x), (2, .long k)] (by decide) (Nat.le_of_ble_eq_true rfl) rfl ?_
  intro p e s m args below meth c C hr hlk hin
  refine v_aload_n C dX9_go_0 rfl rfl ?_
  refine v_iconst (v := 0) C dX9_go_1 (by decide) ?_
  refine m_put C hM dX9_go_2 21 (by decide) g_fl_X9_65 (fun f hM => ?_)
  refine v_aload_n C dX9_go_5 rfl rfl ?_
  refine v_iload_n C dX9_go_6 rfl rfl ?_
  refine v_ci (r_V C (m_noRange_bad l D B K _ r f0 A L (up1 I 21 0) n hM hI0 hn40 x hx) dX9_go_7 hM.1 rfl g_ml_X9_101 g_im_yX9_noRange g_se_X9_yX9_noRange_yX9_noRange g_in_X9 g_cd_yX9_noRange (rn_le (by decide)) (by decide) rfl rfl hdn_yX9_noRange (Nat.le_of_ble_eq_true rfl) ⟨Nat.le_of_ble_eq_true rfl, Nat.le_of_ble_eq_true rfl⟩) (fun r_7 f_7 hp_7 => ?_)
  obtain ⟨rfl, hf9⟩ := hp_7
  have hf9 := hf9.symm
  subst hf9
  refine v_if_eq (tgt := 17) C dX9_go_10 (by decide) (fun c_10 => absurd c_10 (by decide)) (fun _ => ?_)
  refine v_ldc2 C dX9_go_13 g_kl_X9_116 ?_
  exact v_lret C hr hlk dX9_go_16 (Nat.le_refl _) (Nat.le_refl _) ⟨rfl, hM⟩

set_option maxHeartbeats 4000000 in
set_option maxRecDepth 100000 in
theorem m_go_miss (l : Launch) (D : va_G) (B : Nat) (K : Nat → ClassId) (f : St) (r : Nat → Nat) (f0 : St) (A : Nat → Nat → Int32) (L : Nat → Nat → Int64) (I : Nat → Int32) (n : Nat) (hM : MC K r f0 f A L I) (hI0 : I 0 = nI n) (hn40 : n ≤ 40) (sg : Nat → Sg) (l9 : List Ent) (i : Nat) (hi : i < n) (hrow : RowM A L sg l9 i n) (k9 : Nat) (e9 : Ent) (hm : missE sg (L 11) l9 0 = some (k9, e9)) (k : Int64) : Kc l D B K yX9_go cX9_go 6 ((some .long)) 4 0 0 [.ref (r 0), .int (nI i), .long k] f (Ql_ D B (fun x f9 => MC K r f0 f9 A L (up1 (missI (up1 I 21 0) k9 e9) 21 1))) := by
  refine v_met [(0, .ref (r 0)), (1, .int (nI i)), (2, .long k)] (by decide) (Nat.le_of_ble_eq_true rfl) rfl ?_
  intro p e s m args below meth c C hr hlk hin
  refine v_aload_n C dX9_go_0 rfl rfl ?_
  refine v_iconst (v := 0) C dX9_go_1 (by decide) ?_
  refine m_put C hM dX9_go_2 21 (by decide) g_fl_X9_65 (fun f hM => ?_)
  refine v_aload_n C dX9_go_5 rfl rfl ?_
  refine v_iload_n C dX9_go_6 rfl rfl ?_
  refine v_ci (r_V C (m_noRange_ok l D B K _ r f0 A L (up1 I 21 0) n hM hI0 hn40 i hi) dX9_go_7 hM.1 rfl g_ml_X9_101 g_im_yX9_noRange g_se_X9_yX9_noRange_yX9_noRange g_in_X9 g_cd_yX9_noRange (rn_le (by decide)) (by decide) rfl rfl hdn_yX9_noRange (Nat.le_of_ble_eq_true rfl) ⟨Nat.le_of_ble_eq_true rfl, Nat.le_of_ble_eq_true rfl⟩) (fun r_7 f_7 hp_7 => ?_)
  obtain ⟨rfl, hf9⟩ := hp_7
  have hf9 := hf9.symm
  subst hf9
  refine v_if_eq (tgt := 17) C dX9_go_10 (by decide) (fun _ => ?_) (fun c_10 => absurd c_10 (by decide))
  refine v_aload_n C dX9_go_17 rfl rfl ?_
  refine v_iload_n C dX9_go_18 rfl rfl ?_
  refine v_ci (r_V C (m_isHeld_no l D B K _ r f0 A L (up1 I 21 0) sg l9 i n hM hrow (by omega) hn40 k9 e9 hm) dX9_go_19 hM.1 rfl g_ml_X9_147 g_im_yX9_isHeld g_se_X9_yX9_isHeld_yX9_isHeld g_in_X9 g_cd_yX9_isHeld (rn_le (by decide)) (by decide) rfl rfl hdn_yX9_isHeld (Nat.le_of_ble_eq_true rfl) ⟨Nat.le_of_ble_eq_true rfl, Nat.le_of_ble_eq_true rfl⟩) (fun r_19 f_19 hp_19 => ?_)
  obtain ⟨rfl, hM⟩ := hp_19
  refine v_if_ne (tgt := 32) C dX9_go_22 (by decide) (fun c_22 => absurd c_22 (by decide)) (fun _ => ?_)
  refine v_aload_n C dX9_go_25 rfl rfl ?_
  refine v_iconst (v := 1) C dX9_go_26 (by decide) ?_
  refine m_put C hM dX9_go_27 21 (by decide) g_fl_X9_65 (fun f hM => ?_)
  refine v_lconst (v := 0) C dX9_go_30 (by decide) ?_
  exact v_lret C hr hlk dX9_go_31 (Nat.le_refl _) (Nat.le_refl _) hM

set_option maxHeartbeats 4000000 in
set_option maxRecDepth 100000 in
theorem m_go_many (l : Launch) (D : va_G) (B : Nat) (K : Nat → ClassId) (f : St) (r : Nat → Nat) (f0 : St) (A : Nat → Nat → Int32) (L : Nat → Nat → Int64) (I : Nat → Int32) (n : Nat) (hM : MC K r f0 f A L I) (hI0 : I 0 = nI n) (hn40 : n ≤ 40) (sg : Nat → Sg) (l9 : List Ent) (i : Nat) (hi : i < n) (hrow : RowM A L sg l9 i n) (hti : ∀ e ∈ l9, e.2.1 = true → cntS (sg e.1) < 9223372036854775808) (hm : missE sg (L 11) l9 0 = none) (k : Int64) (hb : 9223372036854775808 ≤ idxE sg (L 11) l9 0 0) : Kc l D B K yX9_go cX9_go 6 ((some .long)) 4 0 0 [.ref (r 0), .int (nI i), .long k] f (Ql_ D B (fun x f9 => x = -1000000103 ∧ MC K r f0 f9 A L (up1 I 21 0))) := by
  refine v_met [(0, .ref (r 0)), (1, .int (nI i)), (2, .long k)] (by decide) (Nat.le_of_ble_eq_true rfl) rfl ?_
  intro p e s m args below meth c C hr hlk hin
  refine v_aload_n C dX9_go_0 rfl rfl ?_
  refine v_iconst (v := 0) C dX9_go_1 (by decide) ?_
  refine m_put C hM dX9_go_2 21 (by decide) g_fl_X9_65 (fun f hM => ?_)
  refine v_aload_n C dX9_go_5 rfl rfl ?_
  refine v_iload_n C dX9_go_6 rfl rfl ?_
  refine v_ci (r_V C (m_noRange_ok l D B K _ r f0 A L (up1 I 21 0) n hM hI0 hn40 i hi) dX9_go_7 hM.1 rfl g_ml_X9_101 g_im_yX9_noRange g_se_X9_yX9_noRange_yX9_noRange g_in_X9 g_cd_yX9_noRange (rn_le (by decide)) (by decide) rfl rfl hdn_yX9_noRange (Nat.le_of_ble_eq_true rfl) ⟨Nat.le_of_ble_eq_true rfl, Nat.le_of_ble_eq_true rfl⟩) (fun r_7 f_7 hp_7 => ?_)
  obtain ⟨rfl, hf9⟩ := hp_7
  have hf9 := hf9.symm
  subst hf9
  refine v_if_eq (tgt := 17) C dX9_go_10 (by decide) (fun _ => ?_) (fun c_10 => absurd c_10 (by decide))
  refine v_aload_n C dX9_go_17 rfl rfl ?_
  refine v_iload_n C dX9_go_18 rfl rfl ?_
  refine v_ci (r_V C (m_isHeld_yes l D B K _ r f0 A L (up1 I 21 0) sg l9 i n hM hrow (by omega) hn40 hm) dX9_go_19 hM.1 rfl g_ml_X9_147 g_im_yX9_isHeld g_se_X9_yX9_isHeld_yX9_isHeld g_in_X9 g_cd_yX9_isHeld (rn_le (by decide)) (by decide) rfl rfl hdn_yX9_isHeld (Nat.le_of_ble_eq_true rfl) ⟨Nat.le_of_ble_eq_true rfl, Nat.le_of_ble_eq_true rfl⟩) (fun r_19 f_19 hp_19 => ?_)
  obtain ⟨rfl, hf9⟩ := hp_19
  have hf9 := hf9.symm
  subst hf9
  refine v_if_ne (tgt := 32) C dX9_go_22 (by decide) (fun _ => ?_) (fun c_22 => absurd c_22 (by decide))
  refine v_aload_n C dX9_go_32 rfl rfl ?_
  refine v_iload_n C dX9_go_33 rfl rfl ?_
  refine v_cl (r_V C (m_place l D B K _ r f0 A L (up1 I 21 0) sg l9 i n hM hrow (by omega) hn40 hti hm) dX9_go_34 hM.1 rfl g_ml_X9_150 g_im_yX9_place g_se_X9_yX9_place_yX9_place g_in_X9 g_cd_yX9_place (rn_le (by decide)) (by decide) rfl rfl hdn_yX9_place (Nat.le_of_ble_eq_true rfl) ⟨Nat.le_of_ble_eq_true rfl, Nat.le_of_ble_eq_true rfl⟩) (fun r_34 f_34 hp_34 => ?_)
  obtain ⟨rfl, hf9⟩ := hp_34
  have hf9 := hf9.symm
  subst hf9
  refine v_lstore C dX9_go_37 (by decide) rfl ?_
  refine v_lload C dX9_go_39 rfl ?_
  refine v_ldc2 C dX9_go_41 g_kl_X9_68 ?_
  refine v_lc_ne (tgt := 52) C dX9_go_44 dX9_go_45 (by decide) (fun c_44 => absurd (sat_ge hb) c_44) (fun c_44 => ?_)
  refine v_ldc2 C dX9_go_48 g_kl_X9_160 ?_
  exact v_lret C hr hlk dX9_go_51 (Nat.le_refl _) (Nat.le_refl _) ⟨rfl, hM⟩

set_option maxHeartbeats 4000000 in
set_option maxRecDepth 100000 in
theorem m_go_big (l : Launch) (D : va_G) (B : Nat) (K : Nat → ClassId) (f : St) (r : Nat → Nat) (f0 : St) (A : Nat → Nat → Int32) (L : Nat → Nat → Int64) (I : Nat → Int32) (n : Nat) (hM : MC K r f0 f A L I) (hI0 : I 0 = nI n) (hn40 : n ≤ 40) (sg : Nat → Sg) (l9 : List Ent) (i : Nat) (hi : i < n) (hrow : RowM A L sg l9 i n) (hti : ∀ e ∈ l9, e.2.1 = true → cntS (sg e.1) < 9223372036854775808) (hm : missE sg (L 11) l9 0 = none) (k : Int64) (hb : idxE sg (L 11) l9 0 0 < 9223372036854775808) (hk : 9223372036854775808 ≤ (idxE sg (L 11) l9 0 0 : Int) + k.toInt) : Kc l D B K yX9_go cX9_go 6 ((some .long)) 4 0 0 [.ref (r 0), .int (nI i), .long k] f (Ql_ D B (fun x f9 => MC K r f0 f9 A L (up1 (up1 I 21 0) 21 1))) := by
  refine v_met [(0, .ref (r 0)), (1, .int (nI i)), (2, .long k)] (by decide) (Nat.le_of_ble_eq_true rfl) rfl ?_
  intro p e s m args below meth c C hr hlk hin
  refine v_aload_n C dX9_go_0 rfl rfl ?_
  refine v_iconst (v := 0) C dX9_go_1 (by decide) ?_
  refine m_put C hM dX9_go_2 21 (by decide) g_fl_X9_65 (fun f hM => ?_)
  refine v_aload_n C dX9_go_5 rfl rfl ?_
  refine v_iload_n C dX9_go_6 rfl rfl ?_
  refine v_ci (r_V C (m_noRange_ok l D B K _ r f0 A L (up1 I 21 0) n hM hI0 hn40 i hi) dX9_go_7 hM.1 rfl g_ml_X9_101 g_im_yX9_noRange g_se_X9_yX9_noRange_yX9_noRange g_in_X9 g_cd_yX9_noRange (rn_le (by decide)) (by decide) rfl rfl hdn_yX9_noRange (Nat.le_of_ble_eq_true rfl) ⟨Nat.le_of_ble_eq_true rfl, Nat.le_of_ble_eq_true rfl⟩) (fun r_7 f_7 hp_7 => ?_)
  obtain ⟨rfl, hf9⟩ := hp_7
  have hf9 := hf9.symm
  subst hf9
  refine v_if_eq (tgt := 17) C dX9_go_10 (by decide) (fun _ => ?_) (fun c_10 => absurd c_10 (by decide))
  refine v_aload_n C dX9_go_17 rfl rfl ?_
  refine v_iload_n C dX9_go_18 rfl rfl ?_
  refine v_ci (r_V C (m_isHeld_yes l D B K _ r f0 A L (up1 I 21 0) sg l9 i n hM hrow (by omega) hn40 hm) dX9_go_19 hM.1 rfl g_ml_X9_147 g_im_yX9_isHeld g_se_X9_yX9_isHeld_yX9_isHeld g_in_X9 g_cd_yX9_isHeld (rn_le (by decide)) (by decide) rfl rfl hdn_yX9_isHeld (Nat.le_of_ble_eq_true rfl) ⟨Nat.le_of_ble_eq_true rfl, Nat.le_of_ble_eq_true rfl⟩) (fun r_19 f_19 hp_19 => ?_)
  obtain ⟨rfl, hf9⟩ := hp_19
  have hf9 := hf9.symm
  subst hf9
  refine v_if_ne (tgt := 32) C dX9_go_22 (by decide) (fun _ => ?_) (fun c_22 => absurd c_22 (by decide))
  refine v_aload_n C dX9_go_32 rfl rfl ?_
  refine v_iload_n C dX9_go_33 rfl rfl ?_
  refine v_cl (r_V C (m_place l D B K _ r f0 A L (up1 I 21 0) sg l9 i n hM hrow (by omega) hn40 hti hm) dX9_go_34 hM.1 rfl g_ml_X9_150 g_im_yX9_place g_se_X9_yX9_place_yX9_place g_in_X9 g_cd_yX9_place (rn_le (by decide)) (by decide) rfl rfl hdn_yX9_place (Nat.le_of_ble_eq_true rfl) ⟨Nat.le_of_ble_eq_true rfl, Nat.le_of_ble_eq_true rfl⟩) (fun r_34 f_34 hp_34 => ?_)
  obtain ⟨rfl, hf9⟩ := hp_34
  have hf9 := hf9.symm
  subst hf9
  refine v_lstore C dX9_go_37 (by decide) rfl ?_
  refine v_lload C dX9_go_39 rfl ?_
  refine v_ldc2 C dX9_go_41 g_kl_X9_68 ?_
  refine v_lc_ne (tgt := 52) C dX9_go_44 dX9_go_45 (by decide) (fun c_44 => ?_) (fun c_44 => absurd c_44 (fun h9 => absurd ((sat_m1 _).mp h9) (by omega)))
  refine v_lload_n C dX9_go_52 rfl rfl ?_
  refine v_ldc2 C dX9_go_53 g_kl_X9_76 ?_
  refine v_lload C dX9_go_56 rfl ?_
  refine v_lsub C dX9_go_58 ?_
  refine v_lc_gt (tgt := 75) C dX9_go_59 dX9_go_60 (by decide) (fun c_59 => ?_) (fun c_59 => absurd (by rw [sat_lt hb]; exact (go_big hb).mpr hk) c_59)
  refine v_aload_n C dX9_go_75 rfl rfl ?_
  refine v_iconst (v := 1) C dX9_go_76 (by decide) ?_
  refine m_put C hM dX9_go_77 21 (by decide) g_fl_X9_65 (fun f hM => ?_)
  refine v_lconst (v := 0) C dX9_go_80 (by decide) ?_
  exact v_lret C hr hlk dX9_go_81 (Nat.le_refl _) (Nat.le_refl _) hM

set_option maxHeartbeats 4000000 in
set_option maxRecDepth 100000 in
theorem m_go_no (l : Launch) (D : va_G) (B : Nat) (K : Nat → ClassId) (f : St) (r : Nat → Nat) (f0 : St) (A : Nat → Nat → Int32) (L : Nat → Nat → Int64) (I : Nat → Int32) (n : Nat) (hM : MC K r f0 f A L I) (hI0 : I 0 = nI n) (hn40 : n ≤ 40) (sg : Nat → Sg) (l9 : List Ent) (i : Nat) (hi : i < n) (hrow : RowM A L sg l9 i n) (hti : ∀ e ∈ l9, e.2.1 = true → cntS (sg e.1) < 9223372036854775808) (hz : L 4 i = sat (prodE sg l9)) (hm : missE sg (L 11) l9 0 = none) (k : Int64) (hb : idxE sg (L 11) l9 0 0 < 9223372036854775808) (hk : ¬ 9223372036854775808 ≤ (idxE sg (L 11) l9 0 0 : Int) + k.toInt) (hk2 : ¬ rchS (prodE sg l9) (lN (idxE sg (L 11) l9 0 0) + k)) : Kc l D B K yX9_go cX9_go 6 ((some .long)) 4 0 0 [.ref (r 0), .int (nI i), .long k] f (Ql_ D B (fun x f9 => MC K r f0 f9 A L (up1 (up1 I 21 0) 21 1))) := by
  refine v_met [(0, .ref (r 0)), (1, .int (nI i)), (2, .long k)] (by decide) (Nat.le_of_ble_eq_true rfl) rfl ?_
  intro p e s m args below meth c C hr hlk hin
  refine v_aload_n C dX9_go_0 rfl rfl ?_
  refine v_iconst (v := 0) C dX9_go_1 (by decide) ?_
  refine m_put C hM dX9_go_2 21 (by decide) g_fl_X9_65 (fun f hM => ?_)
  refine v_aload_n C dX9_go_5 rfl rfl ?_
  refine v_iload_n C dX9_go_6 rfl rfl ?_
  refine v_ci (r_V C (m_noRange_ok l D B K _ r f0 A L (up1 I 21 0) n hM hI0 hn40 i hi) dX9_go_7 hM.1 rfl g_ml_X9_101 g_im_yX9_noRange g_se_X9_yX9_noRange_yX9_noRange g_in_X9 g_cd_yX9_noRange (rn_le (by decide)) (by decide) rfl rfl hdn_yX9_noRange (Nat.le_of_ble_eq_true rfl) ⟨Nat.le_of_ble_eq_true rfl, Nat.le_of_ble_eq_true rfl⟩) (fun r_7 f_7 hp_7 => ?_)
  obtain ⟨rfl, hf9⟩ := hp_7
  have hf9 := hf9.symm
  subst hf9
  refine v_if_eq (tgt := 17) C dX9_go_10 (by decide) (fun _ => ?_) (fun c_10 => absurd c_10 (by decide))
  refine v_aload_n C dX9_go_17 rfl rfl ?_
  refine v_iload_n C dX9_go_18 rfl rfl ?_
  refine v_ci (r_V C (m_isHeld_yes l D B K _ r f0 A L (up1 I 21 0) sg l9 i n hM hrow (by omega) hn40 hm) dX9_go_19 hM.1 rfl g_ml_X9_147 g_im_yX9_isHeld g_se_X9_yX9_isHeld_yX9_isHeld g_in_X9 g_cd_yX9_isHeld (rn_le (by decide)) (by decide) rfl rfl hdn_yX9_isHeld (Nat.le_of_ble_eq_true rfl) ⟨Nat.le_of_ble_eq_true rfl, Nat.le_of_ble_eq_true rfl⟩) (fun r_19 f_19 hp_19 => ?_)
  obtain ⟨rfl, hf9⟩ := hp_19
  have hf9 := hf9.symm
  subst hf9
  refine v_if_ne (tgt := 32) C dX9_go_22 (by decide) (fun _ => ?_) (fun c_22 => absurd c_22 (by decide))
  refine v_aload_n C dX9_go_32 rfl rfl ?_
  refine v_iload_n C dX9_go_33 rfl rfl ?_
  refine v_cl (r_V C (m_place l D B K _ r f0 A L (up1 I 21 0) sg l9 i n hM hrow (by omega) hn40 hti hm) dX9_go_34 hM.1 rfl g_ml_X9_150 g_im_yX9_place g_se_X9_yX9_place_yX9_place g_in_X9 g_cd_yX9_place (rn_le (by decide)) (by decide) rfl rfl hdn_yX9_place (Nat.le_of_ble_eq_true rfl) ⟨Nat.le_of_ble_eq_true rfl, Nat.le_of_ble_eq_true rfl⟩) (fun r_34 f_34 hp_34 => ?_)
  obtain ⟨rfl, hf9⟩ := hp_34
  have hf9 := hf9.symm
  subst hf9
  refine v_lstore C dX9_go_37 (by decide) rfl ?_
  refine v_lload C dX9_go_39 rfl ?_
  refine v_ldc2 C dX9_go_41 g_kl_X9_68 ?_
  refine v_lc_ne (tgt := 52) C dX9_go_44 dX9_go_45 (by decide) (fun c_44 => ?_) (fun c_44 => absurd c_44 (fun h9 => absurd ((sat_m1 _).mp h9) (by omega)))
  refine v_lload_n C dX9_go_52 rfl rfl ?_
  refine v_ldc2 C dX9_go_53 g_kl_X9_76 ?_
  refine v_lload C dX9_go_56 rfl ?_
  refine v_lsub C dX9_go_58 ?_
  refine v_lc_gt (tgt := 75) C dX9_go_59 dX9_go_60 (by decide) (fun c_59 => absurd c_59 (fun h9 => by rw [sat_lt hb] at h9; exact hk ((go_big hb).mp h9))) (fun c_59 => ?_)
  refine v_aload_n C dX9_go_63 rfl rfl ?_
  refine v_iload_n C dX9_go_64 rfl rfl ?_
  refine v_lload C dX9_go_65 rfl ?_
  refine v_lload_n C dX9_go_67 rfl rfl ?_
  refine v_ladd C dX9_go_68 ?_
  refine v_ci (r_V C (m_hasPlace0 l D B K _ r f0 A L (up1 I 21 0) i _ hM (by omega)) dX9_go_69 hM.1 rfl g_ml_X9_153 g_im_yX9_hasPlace g_se_X9_yX9_hasPlace_yX9_hasPlace g_in_X9 g_cd_yX9_hasPlace (rn_le (by decide)) (by decide) rfl rfl hdn_yX9_hasPlace (Nat.le_of_ble_eq_true rfl) ⟨Nat.le_of_ble_eq_true rfl, Nat.le_of_ble_eq_true rfl⟩) (fun r_69 f_69 hp_69 => ?_)
  obtain ⟨rfl, hf9⟩ := hp_69
  have hf9 := hf9.symm
  subst hf9
  refine v_ri (show _ = 0 by rw [hz, sat_lt hb]; exact hp_no hk2) ?_
  refine v_if_ne (tgt := 82) C dX9_go_72 (by decide) (fun c_72 => absurd c_72 (by decide)) (fun _ => ?_)
  refine v_aload_n C dX9_go_75 rfl rfl ?_
  refine v_iconst (v := 1) C dX9_go_76 (by decide) ?_
  refine m_put C hM dX9_go_77 21 (by decide) g_fl_X9_65 (fun f hM => ?_)
  refine v_lconst (v := 0) C dX9_go_80 (by decide) ?_
  exact v_lret C hr hlk dX9_go_81 (Nat.le_refl _) (Nat.le_refl _) hM

set_option maxHeartbeats 4000000 in
set_option maxRecDepth 100000 in
theorem m_go_ok (l : Launch) (D : va_G) (B : Nat) (K : Nat → ClassId) (f : St) (r : Nat → Nat) (f0 : St) (A : Nat → Nat → Int32) (L : Nat → Nat → Int64) (I : Nat → Int32) (n : Nat) (hM : MC K r f0 f A L I) (hI0 : I 0 = nI n) (hn40 : n ≤ 40) (sg : Nat → Sg) (l9 : List Ent) (i : Nat) (hi : i < n) (hrow : RowM A L sg l9 i n) (hti : ∀ e ∈ l9, e.2.1 = true → cntS (sg e.1) < 9223372036854775808) (hz : L 4 i = sat (prodE sg l9)) (hm : missE sg (L 11) l9 0 = none) (k : Int64) (hb : idxE sg (L 11) l9 0 0 < 9223372036854775808) (hk : ¬ 9223372036854775808 ≤ (idxE sg (L 11) l9 0 0 : Int) + k.toInt) (hk2 : rchS (prodE sg l9) (lN (idxE sg (L 11) l9 0 0) + k)) : Kc l D B K yX9_go cX9_go 6 ((some .long)) 4 0 0 [.ref (r 0), .int (nI i), .long k] f (Ql_ D B (fun x f9 => x = lN (idxE sg (L 11) l9 0 0) + k ∧ MC K r f0 f9 A (up1 L 11 (filG sg l9 0 (lN (idxE sg (L 11) l9 0 0) + k).toInt.toNat (L 11))) (up1 I 21 0))) := by
  refine v_met [(0, .ref (r 0)), (1, .int (nI i)), (2, .long k)] (by decide) (Nat.le_of_ble_eq_true rfl) rfl ?_
  intro p e s m args below meth c C hr hlk hin
  have hk3 := l_of_pos hk2.1
  refine v_aload_n C dX9_go_0 rfl rfl ?_
  refine v_iconst (v := 0) C dX9_go_1 (by decide) ?_
  refine m_put C hM dX9_go_2 21 (by decide) g_fl_X9_65 (fun f hM => ?_)
  refine v_aload_n C dX9_go_5 rfl rfl ?_
  refine v_iload_n C dX9_go_6 rfl rfl ?_
  refine v_ci (r_V C (m_noRange_ok l D B K _ r f0 A L (up1 I 21 0) n hM hI0 hn40 i hi) dX9_go_7 hM.1 rfl g_ml_X9_101 g_im_yX9_noRange g_se_X9_yX9_noRange_yX9_noRange g_in_X9 g_cd_yX9_noRange (rn_le (by decide)) (by decide) rfl rfl hdn_yX9_noRange (Nat.le_of_ble_eq_true rfl) ⟨Nat.le_of_ble_eq_true rfl, Nat.le_of_ble_eq_true rfl⟩) (fun r_7 f_7 hp_7 => ?_)
  obtain ⟨rfl, hf9⟩ := hp_7
  have hf9 := hf9.symm
  subst hf9
  refine v_if_eq (tgt := 17) C dX9_go_10 (by decide) (fun _ => ?_) (fun c_10 => absurd c_10 (by decide))
  refine v_aload_n C dX9_go_17 rfl rfl ?_
  refine v_iload_n C dX9_go_18 rfl rfl ?_
  refine v_ci (r_V C (m_isHeld_yes l D B K _ r f0 A L (up1 I 21 0) sg l9 i n hM hrow (by omega) hn40 hm) dX9_go_19 hM.1 rfl g_ml_X9_147 g_im_yX9_isHeld g_se_X9_yX9_isHeld_yX9_isHeld g_in_X9 g_cd_yX9_isHeld (rn_le (by decide)) (by decide) rfl rfl hdn_yX9_isHeld (Nat.le_of_ble_eq_true rfl) ⟨Nat.le_of_ble_eq_true rfl, Nat.le_of_ble_eq_true rfl⟩) (fun r_19 f_19 hp_19 => ?_)
  obtain ⟨rfl, hf9⟩ := hp_19
  have hf9 := hf9.symm
  subst hf9
  refine v_if_ne (tgt := 32) C dX9_go_22 (by decide) (fun _ => ?_) (fun c_22 => absurd c_22 (by decide))
  refine v_aload_n C dX9_go_32 rfl rfl ?_
  refine v_iload_n C dX9_go_33 rfl rfl ?_
  refine v_cl (r_V C (m_place l D B K _ r f0 A L (up1 I 21 0) sg l9 i n hM hrow (by omega) hn40 hti hm) dX9_go_34 hM.1 rfl g_ml_X9_150 g_im_yX9_place g_se_X9_yX9_place_yX9_place g_in_X9 g_cd_yX9_place (rn_le (by decide)) (by decide) rfl rfl hdn_yX9_place (Nat.le_of_ble_eq_true rfl) ⟨Nat.le_of_ble_eq_true rfl, Nat.le_of_ble_eq_true rfl⟩) (fun r_34 f_34 hp_34 => ?_)
  obtain ⟨rfl, hf9⟩ := hp_34
  have hf9 := hf9.symm
  subst hf9
  refine v_lstore C dX9_go_37 (by decide) rfl ?_
  refine v_lload C dX9_go_39 rfl ?_
  refine v_ldc2 C dX9_go_41 g_kl_X9_68 ?_
  refine v_lc_ne (tgt := 52) C dX9_go_44 dX9_go_45 (by decide) (fun c_44 => ?_) (fun c_44 => absurd c_44 (fun h9 => absurd ((sat_m1 _).mp h9) (by omega)))
  refine v_lload_n C dX9_go_52 rfl rfl ?_
  refine v_ldc2 C dX9_go_53 g_kl_X9_76 ?_
  refine v_lload C dX9_go_56 rfl ?_
  refine v_lsub C dX9_go_58 ?_
  refine v_lc_gt (tgt := 75) C dX9_go_59 dX9_go_60 (by decide) (fun c_59 => absurd c_59 (fun h9 => by rw [sat_lt hb] at h9; exact hk ((go_big hb).mp h9))) (fun c_59 => ?_)
  refine v_aload_n C dX9_go_63 rfl rfl ?_
  refine v_iload_n C dX9_go_64 rfl rfl ?_
  refine v_lload C dX9_go_65 rfl ?_
  refine v_lload_n C dX9_go_67 rfl rfl ?_
  refine v_ladd C dX9_go_68 ?_
  refine v_ci (r_V C (m_hasPlace0 l D B K _ r f0 A L (up1 I 21 0) i _ hM (by omega)) dX9_go_69 hM.1 rfl g_ml_X9_153 g_im_yX9_hasPlace g_se_X9_yX9_hasPlace_yX9_hasPlace g_in_X9 g_cd_yX9_hasPlace (rn_le (by decide)) (by decide) rfl rfl hdn_yX9_hasPlace (Nat.le_of_ble_eq_true rfl) ⟨Nat.le_of_ble_eq_true rfl, Nat.le_of_ble_eq_true rfl⟩) (fun r_69 f_69 hp_69 => ?_)
  obtain ⟨rfl, hf9⟩ := hp_69
  have hf9 := hf9.symm
  subst hf9
  refine v_ri (show _ = 1 by rw [hz, sat_lt hb]; exact hp_yes hk2) ?_
  refine v_if_ne (tgt := 82) C dX9_go_72 (by decide) (fun _ => ?_) (fun c_72 => absurd c_72 (by decide))
  refine v_aload_n C dX9_go_82 rfl rfl ?_
  refine v_iload_n C dX9_go_83 rfl rfl ?_
  refine v_lload C dX9_go_84 rfl ?_
  refine v_lload_n C dX9_go_86 rfl rfl ?_
  refine v_ladd C dX9_go_87 ?_
  refine v_rl (show sat (idxE sg (L 11) l9 0 0) + k = lN ((lN (idxE sg (L 11) l9 0 0) + k).toInt.toNat) by rw [sat_lt hb]; exact hk3.1) ?_
  refine v_aload_n C dX9_go_88 rfl rfl ?_
  refine v_get C dX9_go_89 11 hM.1 rfl in_X9 (by decide) g_fl_X9_42 (fun _ h9 => h9) rfl ?_
  refine v_cv (r_V C (m_lay11 l D B K _ r f0 A L (up1 I 21 0) sg l9 i n hM hrow (by omega) hn40 hti (lN (idxE sg (L 11) l9 0 0) + k).toInt.toNat hk2.2 hk3.2) dX9_go_92 hM.1 rfl g_ml_X9_156 g_im_yX9_lay g_se_X9_yX9_lay_yX9_lay g_in_X9 g_cd_yX9_lay (rn_le (by decide)) (by decide) rfl rfl hdn_yX9_lay (Nat.le_of_ble_eq_true rfl) ⟨Nat.le_of_ble_eq_true rfl, Nat.le_of_ble_eq_true rfl⟩) (fun f_92 hp_92 => ?_)
  have hM := hp_92
  refine v_lload C dX9_go_95 rfl ?_
  refine v_lload_n C dX9_go_97 rfl rfl ?_
  refine v_ladd C dX9_go_98 ?_
  exact v_lret C hr hlk dX9_go_99 (Nat.le_refl _) (Nat.le_refl _) ⟨by rw [sat_lt hb], hM⟩

def msM (w m13 m14 m15 m16 : Int32) : Int32 := if (inM w.toInt64 (0 : Int64) (2 : Int64)) = (0 : Int32) then ((-102 : Int32)) else if m13 = (0 : Int32) then ((-103 : Int32)) else if w = (0 : Int32) then m14 else if w = (1 : Int32) then m15 else m16
set_option maxHeartbeats 4000000 in
set_option maxRecDepth 100000 in
theorem m_miss (l : Launch) (D : va_G) (B : Nat) (K : Nat → ClassId) (f : St) (r : Nat → Nat) (f0 : St) (A : Nat → Nat → Int32) (L : Nat → Nat → Int64) (I : Nat → Int32) (hM : MC K r f0 f A L I) (w : Int32) : Kc l D B K yX9_miss cX9_miss 2 ((some .int)) 4 0 0 [.ref (r 0), .int w] f (Qi_ D B (fun x f9 => x = msM w (I 13) (I 14) (I 15) (I 16) ∧ f9 = f)) := by
  refine v_met [(0, .ref (r 0)), (1, .int w)] (by decide) (Nat.le_of_ble_eq_true rfl) rfl ?_
  intro p e s m args below meth c C hr hlk hin
  refine v_iload_n C dX9_miss_0 rfl rfl ?_
  refine v_i2l C dX9_miss_1 ?_
  refine v_lconst (v := 0) C dX9_miss_2 (by decide) ?_
  refine v_ldc2 C dX9_miss_3 g_kl_X9_70 ?_
  refine v_ci (r_S C (m_in l D B K _ _ _ _) dX9_miss_6 g_ml_X9_58 g_st_yX9_in g_in_X9 g_cd_yX9_in (rn_le (by decide)) (by decide) rfl hdn_yX9_in (Nat.le_of_ble_eq_true rfl) ⟨Nat.le_of_ble_eq_true rfl, Nat.le_of_ble_eq_true rfl⟩) (fun r_6 f_6 hp_6 => ?_)
  obtain ⟨rfl, rfl⟩ := hp_6
  refine v_if_ne (tgt := 15) C dX9_miss_9 (by decide) (fun c_9 => ?_) (fun c_9 => ?_)
  · refine v_aload_n C dX9_miss_15 rfl rfl ?_
    refine v_get C dX9_miss_16 13 hM.1 rfl in_X9 (by decide) g_fl_X9_124 (fun _ h9 => h9) rfl ?_
    refine v_if_ne (tgt := 25) C dX9_miss_19 (by decide) (fun c_19 => ?_) (fun c_19 => ?_)
    · refine v_iload_n C dX9_miss_25 rfl rfl ?_
      refine v_if_ne (tgt := 36) C dX9_miss_26 (by decide) (fun c_26 => ?_) (fun c_26 => ?_)
      · refine v_iload_n C dX9_miss_36 rfl rfl ?_
        refine v_iconst (v := 1) C dX9_miss_37 (by decide) ?_
        refine v_icmp_ne (tgt := 48) C dX9_miss_38 (by decide) (fun c_38 => ?_) (fun c_38 => ?_)
        · refine v_aload_n C dX9_miss_48 rfl rfl ?_
          refine v_get C dX9_miss_49 16 hM.1 rfl in_X9 (by decide) g_fl_X9_134 (fun _ h9 => h9) rfl ?_
          exact v_iret C hr hlk dX9_miss_52 (Nat.le_refl _) (Nat.le_refl _) ⟨by unfold msM; rw [if_neg c_9, if_neg c_19, if_neg c_26, if_neg c_38], rfl⟩
        · refine v_aload_n C dX9_miss_41 rfl rfl ?_
          refine v_get C dX9_miss_42 15 hM.1 rfl in_X9 (by decide) g_fl_X9_131 (fun _ h9 => h9) rfl ?_
          refine v_goto (tgt := 52) C dX9_miss_45 (by decide) ?_
          exact v_iret C hr hlk dX9_miss_52 (Nat.le_refl _) (Nat.le_refl _) ⟨by unfold msM; rw [if_neg c_9, if_neg c_19, if_neg c_26, if_pos c_38], rfl⟩
      · refine v_aload_n C dX9_miss_29 rfl rfl ?_
        refine v_get C dX9_miss_30 14 hM.1 rfl in_X9 (by decide) g_fl_X9_128 (fun _ h9 => h9) rfl ?_
        refine v_goto (tgt := 52) C dX9_miss_33 (by decide) ?_
        exact v_iret C hr hlk dX9_miss_52 (Nat.le_refl _) (Nat.le_refl _) ⟨by unfold msM; rw [if_neg c_9, if_neg c_19, if_pos c_26], rfl⟩
    · refine v_bipush (v := (-103)) C dX9_miss_22 (by decide) ?_
      exact v_iret C hr hlk dX9_miss_24 (Nat.le_refl _) (Nat.le_refl _) ⟨by unfold msM; rw [if_neg c_9, if_pos c_19], rfl⟩
  · refine v_bipush (v := (-102)) C dX9_miss_12 (by decide) ?_
    exact v_iret C hr hlk dX9_miss_14 (Nat.le_refl _) (Nat.le_refl _) ⟨by unfold msM; rw [if_pos c_9], rfl⟩

