/-! the program: the calls that may throw -/
theorem upC7_in {j : Nat} (h : j < 8) : ¬ upC (nI j) 7 = 0 := by
  unfold upC
  rw [if_neg (nI_pos (by omega)), if_neg (show ¬ (7 : Int32) < nI j from nI_nlt (a := 7) (by omega) (by omega))]
  decide
set_option maxHeartbeats 4000000 in
set_option maxRecDepth 100000 in
theorem c_hold_ok (l : Launch) (D : va_G) (B : Nat) (K : Nat → ClassId) (f : St) (q : Nat → Nat) (n na j : Nat) (v : Int64) (h0 : f (q 0) = some (.inr (6, [.ref (q 1), .ref (q 2), .ref (q 3), .ref (q 4), .ref (q 5), .ref (q 6), .int (nI n), .int (nI na)]))) (h : Nat → Int64) (h1 : f (q 1) = some (.inr (2, [.ref (q 7)]))) (h7 : f (q 7) = some (.inl (K 1, 8, .inr (.inl h)))) (hj : j < 8) : Kc l D B K yX8_hold cX8_hold 6 ((some .long)) 50 0 0 [.ref (q 0), .int (nI j), .long v] f (Ql_ D B (fun r f9 => r = h j ∧ f9 = va_up f (q 7) (some (.inl (K 1, 8, .inr (.inl (vp_updL h j v))))))) := by
  refine v_met [(0, .ref (q 0)), (1, .int (nI j)), (2, .long v)] (by decide) (Nat.le_of_ble_eq_true rfl) rfl ?_
  intro p e s m args below meth c C hr hlk hin
  refine v_iload_n C dX8_hold_0 rfl rfl ?_
  refine v_bipush (v := 7) C dX8_hold_1 (by decide) ?_
  refine v_ci (r_S C (c_isUpTo l D B K _ _ _) dX8_hold_3 g_ml_X8_52 g_st_yX8_isUpTo g_in_X8 g_cd_yX8_isUpTo (rn_le (by decide)) (by decide) rfl hdn_yX8_isUpTo (Nat.le_of_ble_eq_true rfl) ⟨Nat.le_of_ble_eq_true rfl, Nat.le_of_ble_eq_true rfl⟩) (fun r_3 f_3 hp_3 => ?_)
  obtain ⟨rfl, hf9⟩ := hp_3
  have hf9 := hf9.symm
  subst hf9
  refine v_if_ne (tgt := 19) C dX8_hold_6 (by decide) (fun c_6 => ?_) (fun c_6 => absurd c_6 (upC7_in hj))
  refine v_aload_n C dX8_hold_19 rfl rfl ?_
  refine v_get C dX8_hold_20 0 h0 rfl in_X8 (by decide) g_fl_X8_10 (fun _ h9 => h9) rfl ?_
  refine v_iload_n C dX8_hold_23 rfl rfl ?_
  refine v_cl (r_V C (c_look l D B K _ (q 1) h (nI j) (q 7) h1 h7) dX8_hold_24 h1 rfl g_ml_X8_111 g_im_yX2_look g_se_X2_yX2_look_yX2_look g_in_X2 g_cd_yX2_look (rn_le (by decide)) (by decide) rfl rfl hdn_yX2_look (Nat.le_of_ble_eq_true rfl) ⟨Nat.le_of_ble_eq_true rfl, Nat.le_of_ble_eq_true rfl⟩) (fun r_24 f_24 hp_24 => ?_)
  obtain ⟨rfl, hf9⟩ := hp_24
  have hf9 := hf9.symm
  subst hf9
  refine v_rl (look_eq hj) ?_
  refine v_lstore C dX8_hold_27 (by decide) rfl ?_
  refine v_aload_n C dX8_hold_29 rfl rfl ?_
  refine v_get C dX8_hold_30 0 h0 rfl in_X8 (by decide) g_fl_X8_10 (fun _ h9 => h9) rfl ?_
  refine v_iload_n C dX8_hold_33 rfl rfl ?_
  refine v_lload_n C dX8_hold_34 rfl rfl ?_
  refine v_cv (r_V C (c_take l D B K _ (q 1) (q 7) h (nI j) _ h1 h7) dX8_hold_35 h1 rfl g_ml_X8_114 g_im_yX2_take g_se_X2_yX2_take_yX2_take g_in_X2 g_cd_yX2_take (rn_le (by decide)) (by decide) rfl rfl hdn_yX2_take (Nat.le_of_ble_eq_true rfl) ⟨Nat.le_of_ble_eq_true rfl, Nat.le_of_ble_eq_true rfl⟩) (fun f_35 hp_35 => ?_)
  rw [if_neg (nI_pos (by omega)), if_neg (show ¬ (8 : Int32) ≤ nI j from nI_ge (b := 8) hj (by omega)), nI_clamp (by omega)] at hp_35
  subst hp_35
  refine v_lload C dX8_hold_38 rfl ?_
  exact v_lret C hr hlk dX8_hold_40 (Nat.le_of_ble_eq_true rfl) (Nat.le_of_ble_eq_true rfl) ⟨rfl, rfl⟩

set_option maxHeartbeats 4000000 in
set_option maxRecDepth 100000 in
theorem x_hold (l : Launch) (D : va_G) (B : Nat) (K : Nat → ClassId) (f : St) (q : Nat → Nat) (n na : Nat) (x : Int32) (v : Int64) (h0 : f (q 0) = some (.inr (6, [.ref (q 1), .ref (q 2), .ref (q 3), .ref (q 4), .ref (q 5), .ref (q 6), .int (nI n), .int (nI na)]))) (hx : upC x 7 = 0) (hlT : l.stackTraces = false) : Kx l D B K yX8_hold cX8_hold 6 ((some .long)) 50 1 6 [.ref (q 0), .int x, .long v] f (Ql_ D B (fun _ _ => False)) (fun E9 f9 => E9 = "java/lang/ArrayIndexOutOfBoundsException" ∧ f9 = f) := by
  refine v_metX [(0, .ref (q 0)), (1, .int x), (2, .long v)] (by decide) (Nat.le_of_ble_eq_true rfl) rfl ?_
  intro p e s m args below meth c C hr hlk htab
  refine v_iload_n C dX8_hold_0 rfl rfl ?_
  refine v_bipush (v := 7) C dX8_hold_1 (by decide) ?_
  refine v_ci (r_S C (c_isUpTo l D B K _ _ _) dX8_hold_3 g_ml_X8_52 g_st_yX8_isUpTo g_in_X8 g_cd_yX8_isUpTo (rn_le (by decide)) (by decide) rfl hdn_yX8_isUpTo (Nat.le_of_ble_eq_true rfl) ⟨Nat.le_of_ble_eq_true rfl, Nat.le_of_ble_eq_true rfl⟩) (fun r_3 f_3 hp_3 => ?_)
  obtain ⟨rfl, hf9⟩ := hp_3
  have hf9 := hf9.symm
  subst hf9
  refine v_if_ne (tgt := 19) C dX8_hold_6 (by decide) (fun c_6 => absurd hx c_6) (fun c_6 => ?_)
  exact v_throw (text := "the hand has no such number") C hlT hlk htab dX8_hold_9 dX8_hold_12 dX8_hold_13 dX8_hold_15 dX8_hold_18 xa5_A g_cl_X8_104 g_in_Jx00060 (by decide) xa1_A xa2_A xa3_A xa4_A (by decide) (Nat.le_of_ble_eq_true rfl) (Nat.le_of_ble_eq_true rfl) (Nat.le_of_ble_eq_true rfl) (Nat.le_of_ble_eq_true rfl) (Nat.le_of_ble_eq_true rfl) ⟨rfl, rfl⟩

set_option maxHeartbeats 4000000 in
set_option maxRecDepth 100000 in
theorem c_held_ok (l : Launch) (D : va_G) (B : Nat) (K : Nat → ClassId) (f : St) (q : Nat → Nat) (n na j : Nat) (h0 : f (q 0) = some (.inr (6, [.ref (q 1), .ref (q 2), .ref (q 3), .ref (q 4), .ref (q 5), .ref (q 6), .int (nI n), .int (nI na)]))) (h : Nat → Int64) (h1 : f (q 1) = some (.inr (2, [.ref (q 7)]))) (h7 : f (q 7) = some (.inl (K 1, 8, .inr (.inl h)))) (hj : j < 8) : Kc l D B K yX8_held cX8_held 2 ((some .long)) 50 0 0 [.ref (q 0), .int (nI j)] f (Ql_ D B (fun r f9 => r = h j ∧ f9 = f)) := by
  refine v_met [(0, .ref (q 0)), (1, .int (nI j))] (by decide) (Nat.le_of_ble_eq_true rfl) rfl ?_
  intro p e s m args below meth c C hr hlk hin
  refine v_iload_n C dX8_held_0 rfl rfl ?_
  refine v_bipush (v := 7) C dX8_held_1 (by decide) ?_
  refine v_ci (r_S C (c_isUpTo l D B K _ _ _) dX8_held_3 g_ml_X8_52 g_st_yX8_isUpTo g_in_X8 g_cd_yX8_isUpTo (rn_le (by decide)) (by decide) rfl hdn_yX8_isUpTo (Nat.le_of_ble_eq_true rfl) ⟨Nat.le_of_ble_eq_true rfl, Nat.le_of_ble_eq_true rfl⟩) (fun r_3 f_3 hp_3 => ?_)
  obtain ⟨rfl, hf9⟩ := hp_3
  have hf9 := hf9.symm
  subst hf9
  refine v_if_ne (tgt := 19) C dX8_held_6 (by decide) (fun c_6 => ?_) (fun c_6 => absurd c_6 (upC7_in hj))
  refine v_aload_n C dX8_held_19 rfl rfl ?_
  refine v_get C dX8_held_20 0 h0 rfl in_X8 (by decide) g_fl_X8_10 (fun _ h9 => h9) rfl ?_
  refine v_iload_n C dX8_held_23 rfl rfl ?_
  refine v_cl (r_V C (c_look l D B K _ (q 1) h (nI j) (q 7) h1 h7) dX8_held_24 h1 rfl g_ml_X8_111 g_im_yX2_look g_se_X2_yX2_look_yX2_look g_in_X2 g_cd_yX2_look (rn_le (by decide)) (by decide) rfl rfl hdn_yX2_look (Nat.le_of_ble_eq_true rfl) ⟨Nat.le_of_ble_eq_true rfl, Nat.le_of_ble_eq_true rfl⟩) (fun r_24 f_24 hp_24 => ?_)
  obtain ⟨rfl, hf9⟩ := hp_24
  have hf9 := hf9.symm
  subst hf9
  refine v_rl (look_eq hj) ?_
  exact v_lret C hr hlk dX8_held_27 (Nat.le_of_ble_eq_true rfl) (Nat.le_of_ble_eq_true rfl) ⟨rfl, rfl⟩

set_option maxHeartbeats 4000000 in
set_option maxRecDepth 100000 in
theorem x_held (l : Launch) (D : va_G) (B : Nat) (K : Nat → ClassId) (f : St) (q : Nat → Nat) (n na : Nat) (x : Int32) (h0 : f (q 0) = some (.inr (6, [.ref (q 1), .ref (q 2), .ref (q 3), .ref (q 4), .ref (q 5), .ref (q 6), .int (nI n), .int (nI na)]))) (hx : upC x 7 = 0) (hlT : l.stackTraces = false) : Kx l D B K yX8_held cX8_held 2 ((some .long)) 50 1 6 [.ref (q 0), .int x] f (Ql_ D B (fun _ _ => False)) (fun E9 f9 => E9 = "java/lang/ArrayIndexOutOfBoundsException" ∧ f9 = f) := by
  refine v_metX [(0, .ref (q 0)), (1, .int x)] (by decide) (Nat.le_of_ble_eq_true rfl) rfl ?_
  intro p e s m args below meth c C hr hlk htab
  refine v_iload_n C dX8_held_0 rfl rfl ?_
  refine v_bipush (v := 7) C dX8_held_1 (by decide) ?_
  refine v_ci (r_S C (c_isUpTo l D B K _ _ _) dX8_held_3 g_ml_X8_52 g_st_yX8_isUpTo g_in_X8 g_cd_yX8_isUpTo (rn_le (by decide)) (by decide) rfl hdn_yX8_isUpTo (Nat.le_of_ble_eq_true rfl) ⟨Nat.le_of_ble_eq_true rfl, Nat.le_of_ble_eq_true rfl⟩) (fun r_3 f_3 hp_3 => ?_)
  obtain ⟨rfl, hf9⟩ := hp_3
  have hf9 := hf9.symm
  subst hf9
  refine v_if_ne (tgt := 19) C dX8_held_6 (by decide) (fun c_6 => absurd hx c_6) (fun c_6 => ?_)
  exact v_throw (text := "the hand has no such number") C hlT hlk htab dX8_held_9 dX8_held_12 dX8_held_13 dX8_held_15 dX8_held_18 xa5_A g_cl_X8_104 g_in_Jx00060 (by decide) xa1_A xa2_A xa3_A xa4_A (by decide) (Nat.le_of_ble_eq_true rfl) (Nat.le_of_ble_eq_true rfl) (Nat.le_of_ble_eq_true rfl) (Nat.le_of_ble_eq_true rfl) (Nat.le_of_ble_eq_true rfl) ⟨rfl, rfl⟩

set_option maxHeartbeats 4000000 in
set_option maxRecDepth 100000 in
theorem c_index_unk (l : Launch) (D : va_G) (B : Nat) (K : Nat → ClassId) (f : St) (q : Nat → Nat) (n na : Nat) (x : Int32) (h0 : f (q 0) = some (.inr (6, [.ref (q 1), .ref (q 2), .ref (q 3), .ref (q 4), .ref (q 5), .ref (q 6), .int (nI n), .int (nI na)]))) (hn40 : n ≤ 40) (hx : x < 0 ∨ nI n ≤ x) : Kc l D B K yX8_index cX8_index 5 ((some .long)) 50 0 0 [.ref (q 0), .int x] f (Ql_ D B (fun r f9 => r = -1000000101 ∧ f9 = f)) := by
  refine v_met [(0, .ref (q 0)), (1, .int x)] (by decide) (Nat.le_of_ble_eq_true rfl) rfl ?_
  intro p e s m args below meth c C hr hlk hin
  refine v_aload_n C dX8_index_0 rfl rfl ?_
  refine v_iload_n C dX8_index_1 rfl rfl ?_
  refine v_cq (r_V C (c_rangeOf_bad l D B K _ q n na x h0 hx hn40) dX8_index_2 h0 rfl g_ml_X8_71 g_im_yX8_rangeOf g_se_X8_yX8_rangeOf_yX8_rangeOf g_in_X8 g_cd_yX8_rangeOf (rn_le (by decide)) (by decide) rfl rfl hdn_yX8_rangeOf (Nat.le_of_ble_eq_true rfl) ⟨Nat.le_of_ble_eq_true rfl, Nat.le_of_ble_eq_true rfl⟩) (fun r_2 f_2 hp_2 => ?_)
  obtain ⟨rfl, rfl⟩ := hp_2
  refine v_rn rfl ?_
  refine v_astore_nN C dX8_index_5 rfl (by decide) rfl ?_
  refine v_aload_nN C dX8_index_6 rfl rfl ?_
  refine v_ifnonnullN C dX8_index_7 ?_
  refine v_bipush (v := (-101)) C dX8_index_10 (by decide) ?_
  refine v_cl (r_S C (c_longCode l D B K _ _) dX8_index_12 g_ml_X8_100 g_st_yX8_longCode g_in_X8 g_cd_yX8_longCode (rn_le (by decide)) (by decide) rfl hdn_yX8_longCode (Nat.le_of_ble_eq_true rfl) ⟨Nat.le_of_ble_eq_true rfl, Nat.le_of_ble_eq_true rfl⟩) (fun r_12 f_12 hp_12 => ?_)
  obtain ⟨rfl, rfl⟩ := hp_12
  exact v_lret C hr hlk dX8_index_15 (Nat.le_of_ble_eq_true rfl) (Nat.le_of_ble_eq_true rfl) ⟨by decide, rfl⟩

set_option maxHeartbeats 4000000 in
set_option maxRecDepth 100000 in
theorem c_index_ok (l : Launch) (D : va_G) (B : Nat) (K : Nat → ClassId) (f : St) (q : Nat → Nat) (n na : Nat) (g : Nat → Option Nat) (fi : St) (sg : Nat → Sg) (E : Nat → List Ent) (ra : Nat → Nat) (kd : Nat → Int32) (i : Nat) (t x y z : Int32) (h : Nat → Int64) (h0 : f (q 0) = some (.inr (6, [.ref (q 1), .ref (q 2), .ref (q 3), .ref (q 4), .ref (q 5), .ref (q 6), .int (nI n), .int (nI na)]))) (h4 : f (q 4) = some (.inl (K 3, 40, .inr (.inr (.inr (.inr (g))))))) (hn40 : n ≤ 40) (hT : RT K sg E ra kd fi n) (hI : Imm fi f) (hg : ∀ i, i < n → g i = some (ra i)) (h1 : f (q 1) = some (.inr (2, [.ref (q 7)]))) (h7 : f (q 7) = some (.inl (K 1, 8, .inr (.inl h)))) (h3 : f (q 3) = some (.inr (3, [.int t, .int x, .int y, .int z]))) (hi : i < n) (hm : missE sg h (E i) 0 = none) : Kc l D B K yX8_index cX8_index 5 ((some .long)) 50 0 0 [.ref (q 0), .int (nI i)] f (Ql_ D B (fun r f9 => r = sat (idxE sg h (E i) 0 0) ∧ f9 = f)) := by
  refine v_met [(0, .ref (q 0)), (1, .int (nI i))] (by decide) (Nat.le_of_ble_eq_true rfl) rfl ?_
  intro p e s m args below meth c C hr hlk hin
  refine v_aload_n C dX8_index_0 rfl rfl ?_
  refine v_iload_n C dX8_index_1 rfl rfl ?_
  refine v_cq (r_V C (c_rangeOf_ok l D B K _ q n na g i (ra i) h0 h4 hi hn40 (hg i hi)) dX8_index_2 h0 rfl g_ml_X8_71 g_im_yX8_rangeOf g_se_X8_yX8_rangeOf_yX8_rangeOf g_in_X8 g_cd_yX8_rangeOf (rn_le (by decide)) (by decide) rfl rfl hdn_yX8_rangeOf (Nat.le_of_ble_eq_true rfl) ⟨Nat.le_of_ble_eq_true rfl, Nat.le_of_ble_eq_true rfl⟩) (fun r_2 f_2 hp_2 => ?_)
  obtain ⟨rfl, hf9⟩ := hp_2
  have hf9 := hf9.symm
  subst hf9
  refine v_rq rfl ?_
  refine v_astore_n C dX8_index_5 rfl (by decide) rfl ?_
  refine v_aload_n C dX8_index_6 rfl rfl ?_
  refine v_ifnonnull (tgt := 16) C dX8_index_7 (by decide) ?_
  refine v_aload_n C dX8_index_16 rfl rfl ?_
  refine v_aload_n C dX8_index_17 rfl rfl ?_
  refine v_cl (r_V C (c_placeOfHand l D B K _ q n na fi sg E ra kd i t x y z h h0 hT hn40 hi hI h1 h7 h3) dX8_index_18 h0 rfl g_ml_X8_118 g_im_yX8_placeOfHand g_se_X8_yX8_placeOfHand_yX8_placeOfHand g_in_X8 g_cd_yX8_placeOfHand (rn_le (by decide)) (by decide) rfl rfl hdn_yX8_placeOfHand (Nat.le_of_ble_eq_true rfl) ⟨Nat.le_of_ble_eq_true rfl, Nat.le_of_ble_eq_true rfl⟩) (fun r_18 f_18 hp_18 => ?_)
  obtain ⟨rfl, hf9⟩ := hp_18
  rw [hm] at hf9
  have hf9 := hf9.symm
  subst hf9
  refine v_rl (show plR sg h (E i) 0 = sat (idxE sg h (E i) 0 0) by unfold plR; rw [hm]) ?_
  refine v_lstore_n C dX8_index_21 rfl (by decide) rfl ?_
  refine v_lload_n C dX8_index_22 rfl rfl ?_
  refine v_ldc2 C dX8_index_23 g_kl_X8_122 ?_
  refine v_lc_ne (tgt := 40) C dX8_index_26 dX8_index_27 (by decide) (fun c_26 => ?_) (fun c_26 => absurd c_26 (sat_n2 _))
  refine v_lload_n C dX8_index_40 rfl rfl ?_
  exact v_lret C hr hlk dX8_index_41 (Nat.le_of_ble_eq_true rfl) (Nat.le_of_ble_eq_true rfl) ⟨rfl, rfl⟩

set_option maxHeartbeats 4000000 in
set_option maxRecDepth 100000 in
theorem x_index (l : Launch) (D : va_G) (B : Nat) (K : Nat → ClassId) (f : St) (q : Nat → Nat) (n na : Nat) (g : Nat → Option Nat) (fi : St) (sg : Nat → Sg) (E : Nat → List Ent) (ra : Nat → Nat) (kd : Nat → Int32) (i : Nat) (t x y z : Int32) (h : Nat → Int64) (h0 : f (q 0) = some (.inr (6, [.ref (q 1), .ref (q 2), .ref (q 3), .ref (q 4), .ref (q 5), .ref (q 6), .int (nI n), .int (nI na)]))) (h4 : f (q 4) = some (.inl (K 3, 40, .inr (.inr (.inr (.inr (g))))))) (hn40 : n ≤ 40) (hT : RT K sg E ra kd fi n) (hI : Imm fi f) (hg : ∀ i, i < n → g i = some (ra i)) (h1 : f (q 1) = some (.inr (2, [.ref (q 7)]))) (h7 : f (q 7) = some (.inl (K 1, 8, .inr (.inl h)))) (h3 : f (q 3) = some (.inr (3, [.int t, .int x, .int y, .int z]))) (hi : i < n) (m9 : Nat × Ent) (hm : missE sg h (E i) 0 = some m9) (hlT : l.stackTraces = false) : Kx l D B K yX8_index cX8_index 5 ((some .long)) 50 1 6 [.ref (q 0), .int (nI i)] f (Ql_ D B (fun _ _ => False)) (fun E9 f9 => E9 = "java/lang/IndexOutOfBoundsException" ∧ f9 = plF f (q 3) t 0 (some m9)) := by
  refine v_metX [(0, .ref (q 0)), (1, .int (nI i))] (by decide) (Nat.le_of_ble_eq_true rfl) rfl ?_
  intro p e s m args below meth c C hr hlk htab
  refine v_aload_n C dX8_index_0 rfl rfl ?_
  refine v_iload_n C dX8_index_1 rfl rfl ?_
  refine v_cq (r_V C (c_rangeOf_ok l D B K _ q n na g i (ra i) h0 h4 hi hn40 (hg i hi)) dX8_index_2 h0 rfl g_ml_X8_71 g_im_yX8_rangeOf g_se_X8_yX8_rangeOf_yX8_rangeOf g_in_X8 g_cd_yX8_rangeOf (rn_le (by decide)) (by decide) rfl rfl hdn_yX8_rangeOf (Nat.le_of_ble_eq_true rfl) ⟨Nat.le_of_ble_eq_true rfl, Nat.le_of_ble_eq_true rfl⟩) (fun r_2 f_2 hp_2 => ?_)
  obtain ⟨rfl, hf9⟩ := hp_2
  have hf9 := hf9.symm
  subst hf9
  refine v_rq rfl ?_
  refine v_astore_n C dX8_index_5 rfl (by decide) rfl ?_
  refine v_aload_n C dX8_index_6 rfl rfl ?_
  refine v_ifnonnull (tgt := 16) C dX8_index_7 (by decide) ?_
  refine v_aload_n C dX8_index_16 rfl rfl ?_
  refine v_aload_n C dX8_index_17 rfl rfl ?_
  refine v_cl (r_V C (c_placeOfHand l D B K _ q n na fi sg E ra kd i t x y z h h0 hT hn40 hi hI h1 h7 h3) dX8_index_18 h0 rfl g_ml_X8_118 g_im_yX8_placeOfHand g_se_X8_yX8_placeOfHand_yX8_placeOfHand g_in_X8 g_cd_yX8_placeOfHand (rn_le (by decide)) (by decide) rfl rfl hdn_yX8_placeOfHand (Nat.le_of_ble_eq_true rfl) ⟨Nat.le_of_ble_eq_true rfl, Nat.le_of_ble_eq_true rfl⟩) (fun r_18 f_18 hp_18 => ?_)
  obtain ⟨rfl, hf9⟩ := hp_18
  rw [hm] at hf9
  refine v_rl (show plR sg h (E i) 0 = -2 by unfold plR; rw [hm]) ?_
  refine v_lstore_n C dX8_index_21 rfl (by decide) rfl ?_
  refine v_lload_n C dX8_index_22 rfl rfl ?_
  refine v_ldc2 C dX8_index_23 g_kl_X8_122 ?_
  refine v_lc_ne (tgt := 40) C dX8_index_26 dX8_index_27 (by decide) (fun c_26 => absurd rfl c_26) (fun c_26 => ?_)
  exact v_throw (text := "the hand holds no element of the range") C hlT hlk htab dX8_index_30 dX8_index_33 dX8_index_34 dX8_index_36 dX8_index_39 xa5_I g_cl_X8_124 g_in_java_lang_IndexOutOfBoundsException (by decide) xa1_I xa2_I xa3_I xa4_I (by decide) (Nat.le_of_ble_eq_true rfl) (Nat.le_of_ble_eq_true rfl) (Nat.le_of_ble_eq_true rfl) (Nat.le_of_ble_eq_true rfl) (Nat.le_of_ble_eq_true rfl) ⟨rfl, hf9⟩

set_option maxHeartbeats 4000000 in
set_option maxRecDepth 100000 in
theorem c_reaches (l : Launch) (D : va_G) (B : Nat) (K : Nat → ClassId) (f : St) (a0 ci : Nat) (fs : List Value) (sz k : Int64) (hci : ci = 0 ∨ ci = 1 ∨ ci = 4 ∨ ci = 5) (h0 : f a0 = some (.inr (ci, fs))) (hf3 : fs[3]? = some (.long sz)) : Kc l D B K yX5_reaches cX5_reaches 3 ((some .boolean)) 0 0 0 [.ref a0, .long k] f (Qi_ D B (fun r f9 => r = rchC sz k ∧ f9 = f)) := by
  refine v_met [(0, .ref a0), (1, .long k)] (by decide) (Nat.le_of_ble_eq_true rfl) rfl ?_
  intro p e s m args below meth c C hr hlk hin
  refine v_lload_n C dX5_reaches_0 rfl rfl ?_
  refine v_lconst (v := 0) C dX5_reaches_1 (by decide) ?_
  refine v_lc_lt (tgt := 30) C dX5_reaches_2 dX5_reaches_3 (by decide) (fun c_2 => ?_) (fun c_2 => ?_)
  · refine v_iconst (v := 0) C dX5_reaches_30 (by decide) ?_
    exact v_zret C hr hlk dX5_reaches_31 rfl (Nat.le_refl _) (Nat.le_refl _) ⟨by unfold rchC; rw [if_pos c_2], rfl⟩
  · refine v_aload_n C dX5_reaches_6 rfl rfl ?_
    refine v_getR C dX5_reaches_7 3 (by decide) hci h0 g_fl_X5_21 hf3 ?_
    refine v_ldc2 C dX5_reaches_10 g_kl_X5_25 ?_
    refine v_lc_eq (tgt := 26) C dX5_reaches_13 dX5_reaches_14 (by decide) (fun c_13 => ?_) (fun c_13 => ?_)
    · refine v_iconst (v := 1) C dX5_reaches_26 (by decide) ?_
      refine v_goto (tgt := 31) C dX5_reaches_27 (by decide) ?_
      exact v_zret C hr hlk dX5_reaches_31 rfl (Nat.le_refl _) (Nat.le_refl _) ⟨by unfold rchC; rw [if_neg c_2, if_pos c_13], rfl⟩
    · refine v_lload_n C dX5_reaches_17 rfl rfl ?_
      refine v_aload_n C dX5_reaches_18 rfl rfl ?_
      refine v_getR C dX5_reaches_19 3 (by decide) hci h0 g_fl_X5_21 hf3 ?_
      refine v_lc_ge (tgt := 30) C dX5_reaches_22 dX5_reaches_23 (by decide) (fun c_22 => ?_) (fun c_22 => ?_)
      · refine v_iconst (v := 0) C dX5_reaches_30 (by decide) ?_
        exact v_zret C hr hlk dX5_reaches_31 rfl (Nat.le_refl _) (Nat.le_refl _) ⟨by unfold rchC; rw [if_neg c_2, if_neg c_13, if_pos c_22], rfl⟩
      · refine v_iconst (v := 1) C dX5_reaches_26 (by decide) ?_
        refine v_goto (tgt := 31) C dX5_reaches_27 (by decide) ?_
        exact v_zret C hr hlk dX5_reaches_31 rfl (Nat.le_refl _) (Nat.le_refl _) ⟨by unfold rchC; rw [if_neg c_2, if_neg c_13, if_neg c_22], rfl⟩

theorem hdn_reach : RX5 ≠ "java/lang/invoke/MethodHandle" ∧ RX5 ≠ "java/lang/invoke/VarHandle" ∧ (parseMethodDescriptor yX5_reaches.desc).map (fun d => d.parameters.length) = some 1 := by decide +kernel
theorem v_reach {p : Program} {l : Launch} {e : Env} {R : Room} {s : State} {m : MethodId} {args : Array Value} {below : List Frame} {meth : Method} {c : Code} {D : va_G} {B nL : Nat} {Q : State → Prop} {ce sl : Nat} {f : St} {lv : Lv} {pc : Nat} {st : List Value} {cc : ByteArray} {own : String} {K : Nat → ClassId} (C : Cx p s m args c cc nL own D B K) {a0 ci index : Nat} {fs : List Value} {sz k9 : Int64} {rest : List Value} (hd : decode cc pc = .ok (.invokevirtual index, 3)) (hci : ci = 0 ∨ ci = 1 ∨ ci = 4 ∨ ci = 5) (h0 : f a0 = some (.inr (ci, fs))) (hf3 : fs[3]? = some (.long sz))
    (g1 : Cond.methodLink own index yX5_reaches ∈ GT) (hR : RN R 1) (hst : st = [Value.long k9, .ref a0] ++ rest) (hrest : (rest.map fun v => v.category).sum ≤ 8) (hf : ce ≤ R.cells ∧ sl ≤ R.slots)
    (k : V p l e R s m args below meth c D B nL Q ce sl f lv (pc + 3) (.int (rchC sz k9) :: rest)) : V p l e R s m args below meth c D B nL Q ce sl f lv pc st := by
  have hst2 : st = ([Value.long k9] : List Value).reverse ++ .ref a0 :: rest := hst
  rcases hci with rfl | rfl | rfl | rfl
  · exact v_ci (r_U (x := yX5_reaches) (owner := RX5) C (c_reaches l D B K f a0 0 fs sz k9 (by omega) h0 hf3) hd h0 rfl g1 g_sm_X5_X5_reaches g_se_X0_yX5_reaches_yX5_reaches g_im_yX5_reaches g_in_X5 g_cd_yX5_reaches rfl hR (by decide) hst2 hdn_reach hrest hf) (fun r f9 hp => by obtain ⟨rfl, rfl⟩ := hp; exact k)
  · exact v_ci (r_U (x := yX5_reaches) (owner := RX5) C (c_reaches l D B K f a0 1 fs sz k9 (by omega) h0 hf3) hd h0 rfl g1 g_sm_X5_X5_reaches g_se_X1_yX5_reaches_yX5_reaches g_im_yX5_reaches g_in_X5 g_cd_yX5_reaches rfl hR (by decide) hst2 hdn_reach hrest hf) (fun r f9 hp => by obtain ⟨rfl, rfl⟩ := hp; exact k)
  · exact v_ci (r_U (x := yX5_reaches) (owner := RX5) C (c_reaches l D B K f a0 4 fs sz k9 (by omega) h0 hf3) hd h0 rfl g1 g_sm_X5_X5_reaches g_se_X4_yX5_reaches_yX5_reaches g_im_yX5_reaches g_in_X5 g_cd_yX5_reaches rfl hR (by decide) hst2 hdn_reach hrest hf) (fun r f9 hp => by obtain ⟨rfl, rfl⟩ := hp; exact k)
  · exact v_ci (r_U (x := yX5_reaches) (owner := RX5) C (c_reaches l D B K f a0 5 fs sz k9 (by omega) h0 hf3) hd h0 rfl g1 g_sm_X5_X5_reaches g_se_X6_yX5_reaches_yX5_reaches g_im_yX5_reaches g_in_X5 g_cd_yX5_reaches rfl hR (by decide) hst2 hdn_reach hrest hf) (fun r f9 hp => by obtain ⟨rfl, rfl⟩ := hp; exact k)
/-- there is an element of this index -/
def rchS (P : Nat) (k : Int64) : Prop := 0 ≤ k.toInt ∧ k.toInt.toNat < P
theorem rch_eq (P : Nat) (k : Int64) : rchC (sat P) k = 0 ↔ ¬ rchS P k := by
  unfold rchC rchS
  have e0 : (0 : Int64).toInt = 0 := rfl
  by_cases h1 : k < 0
  · rw [if_pos h1]
    rw [Int64.lt_iff_toInt_lt] at h1
    exact ⟨fun _ h => by omega, fun _ => rfl⟩
  · rw [if_neg h1]
    rw [Int64.lt_iff_toInt_lt] at h1
    obtain ⟨ek, hk⟩ := l_of_pos (s := k) (by omega)
    by_cases h2 : sat P = -1
    · rw [if_pos h2]
      have h3 := (sat_m1 P).mp h2
      exact ⟨fun h => absurd h (by decide), fun h => absurd ⟨by omega, by omega⟩ h⟩
    · rw [if_neg h2]
      have h3 : P < 9223372036854775808 := by
        rcases Nat.lt_or_ge P 9223372036854775808 with z | z
        · exact z
        · exact absurd (sat_ge z) h2
      have h4 : sat P ≤ k ↔ P ≤ k.toInt.toNat := by
        conv => lhs; rw [sat_lt h3, ek]
        exact pk_lLE h3 hk
      by_cases h5 : sat P ≤ k
      · rw [if_pos h5]
        have h6 := h4.mp h5
        exact ⟨fun _ h => by omega, fun _ => rfl⟩
      · rw [if_neg h5]
        have h6 : ¬ P ≤ k.toInt.toNat := fun h => h5 (h4.mpr h)
        exact ⟨fun h => absurd h (by decide), fun h => absurd ⟨by omega, by omega⟩ h⟩
set_option maxHeartbeats 4000000 in
set_option maxRecDepth 100000 in
theorem c_element_unk (l : Launch) (D : va_G) (B : Nat) (K : Nat → ClassId) (f : St) (q : Nat → Nat) (n na : Nat) (x : Int32) (h0 : f (q 0) = some (.inr (6, [.ref (q 1), .ref (q 2), .ref (q 3), .ref (q 4), .ref (q 5), .ref (q 6), .int (nI n), .int (nI na)]))) (hn40 : n ≤ 40) (hx : x < 0 ∨ nI n ≤ x) (k : Int64) : Kc l D B K yX8_element cX8_element 5 ((some .int)) 50 0 0 [.ref (q 0), .int x, .long k] f (Qi_ D B (fun r f9 => r = -101 ∧ f9 = f)) := by
  refine v_met [(0, .ref (q 0)), (1, .int x), (2, .long k)] (by decide) (Nat.le_of_ble_eq_true rfl) rfl ?_
  intro p e s m args below meth c C hr hlk hin
  refine v_aload_n C dX8_element_0 rfl rfl ?_
  refine v_iload_n C dX8_element_1 rfl rfl ?_
  refine v_cq (r_V C (c_rangeOf_bad l D B K _ q n na x h0 hx hn40) dX8_element_2 h0 rfl g_ml_X8_71 g_im_yX8_rangeOf g_se_X8_yX8_rangeOf_yX8_rangeOf g_in_X8 g_cd_yX8_rangeOf (rn_le (by decide)) (by decide) rfl rfl hdn_yX8_rangeOf (Nat.le_of_ble_eq_true rfl) ⟨Nat.le_of_ble_eq_true rfl, Nat.le_of_ble_eq_true rfl⟩) (fun r_2 f_2 hp_2 => ?_)
  obtain ⟨rfl, rfl⟩ := hp_2
  refine v_rn rfl ?_
  refine v_astoreN C dX8_element_5 (by decide) rfl ?_
  refine v_aloadN C dX8_element_7 rfl ?_
  refine v_ifnonnullN C dX8_element_9 ?_
  refine v_bipush (v := (-101)) C dX8_element_12 (by decide) ?_
  exact v_iret C hr hlk dX8_element_14 (Nat.le_of_ble_eq_true rfl) (Nat.le_of_ble_eq_true rfl) ⟨rfl, rfl⟩

set_option maxHeartbeats 4000000 in
set_option maxRecDepth 100000 in
theorem c_element_ok (l : Launch) (D : va_G) (B : Nat) (K : Nat → ClassId) (f : St) (q : Nat → Nat) (n na : Nat) (g : Nat → Option Nat) (fi : St) (sg : Nat → Sg) (E : Nat → List Ent) (ra : Nat → Nat) (kd : Nat → Int32) (i : Nat) (h : Nat → Int64) (k : Int64) (h0 : f (q 0) = some (.inr (6, [.ref (q 1), .ref (q 2), .ref (q 3), .ref (q 4), .ref (q 5), .ref (q 6), .int (nI n), .int (nI na)]))) (h4 : f (q 4) = some (.inl (K 3, 40, .inr (.inr (.inr (.inr (g))))))) (hn40 : n ≤ 40) (hT : RT K sg E ra kd fi n) (hI : Imm fi f) (hg : ∀ i, i < n → g i = some (ra i)) (h1 : f (q 1) = some (.inr (2, [.ref (q 7)]))) (h7 : f (q 7) = some (.inl (K 1, 8, .inr (.inl h)))) (hq : ∀ i j, i < 15 → j < 15 → q i = q j → i = j) (hfq : ∀ j, j < 15 → fi (q j) = none) (hi : i < n) (hk : rchS (prodE sg (E i)) k) : Kc l D B K yX8_element cX8_element 5 ((some .int)) 50 0 0 [.ref (q 0), .int (nI i), .long k] f (Qi_ D B (fun r f9 => r = nI (E i).length ∧ f9 = va_up f (q 7) (some (.inl (K 1, 8, .inr (.inl (filG sg (E i) 0 k.toInt.toNat h))))))) := by
  refine v_met [(0, .ref (q 0)), (1, .int (nI i)), (2, .long k)] (by decide) (Nat.le_of_ble_eq_true rfl) rfl ?_
  intro p e s m args below meth c C hr hlk hin
  obtain ⟨cii, fsi, hcii, hcelli, hf0i, hf1i, hf2i, hf3i⟩ := RT_hdr (hT.2 i hi).1
  obtain ⟨ek, hkl⟩ := l_of_pos hk.1
  have hkP := hk.2
  refine v_aload_n C dX8_element_0 rfl rfl ?_
  refine v_iload_n C dX8_element_1 rfl rfl ?_
  refine v_cq (r_V C (c_rangeOf_ok l D B K _ q n na g i (ra i) h0 h4 hi hn40 (hg i hi)) dX8_element_2 h0 rfl g_ml_X8_71 g_im_yX8_rangeOf g_se_X8_yX8_rangeOf_yX8_rangeOf g_in_X8 g_cd_yX8_rangeOf (rn_le (by decide)) (by decide) rfl rfl hdn_yX8_rangeOf (Nat.le_of_ble_eq_true rfl) ⟨Nat.le_of_ble_eq_true rfl, Nat.le_of_ble_eq_true rfl⟩) (fun r_2 f_2 hp_2 => ?_)
  obtain ⟨rfl, hf9⟩ := hp_2
  have hf9 := hf9.symm
  subst hf9
  refine v_rq rfl ?_
  refine v_astore C dX8_element_5 (by decide) rfl ?_
  refine v_aload C dX8_element_7 rfl ?_
  refine v_ifnonnull (tgt := 15) C dX8_element_9 (by decide) ?_
  refine v_aload C dX8_element_15 rfl ?_
  refine v_lload_n C dX8_element_17 rfl rfl ?_
  refine v_reach (ci := cii) (fs := fsi) C dX8_element_18 hcii (hI _ _ hcelli) hf3i g_ml_X8_129 (rn_le (by decide)) rfl (Nat.le_of_ble_eq_true rfl) ⟨Nat.zero_le _, Nat.zero_le _⟩ ?_
  refine v_if_ne (tgt := 34) C dX8_element_21 (by decide) (fun c_21 => ?_) (fun c_21 => absurd c_21 (fun h9 => (rch_eq _ _).mp h9 hk))
  refine v_aload C dX8_element_34 rfl ?_
  refine v_aload_n C dX8_element_36 rfl rfl ?_
  refine v_get C dX8_element_37 0 h0 rfl in_X8 (by decide) g_fl_X8_10 (fun _ h9 => h9) rfl ?_
  refine v_iconst (v := 0) C dX8_element_40 (by decide) ?_
  refine v_lload_n C dX8_element_41 rfl rfl ?_
  refine v_rl ek ?_
  refine v_fill (i := i) (a := 0) (k9 := k.toInt.toNat) C dX8_element_42 (hT.2 i hi).1 (fill_all l D B K hT i hi) hI (hfq 7 (by decide)) h1 (fun e9 => absurd (hq 1 7 (by decide) (by decide) e9) (by decide)) h7 (by have h9 := (hT.2 i hi).2.1; omega) hkP (by omega) g_ml_X8_135 (rn_le (by omega)) rfl (Nat.le_of_ble_eq_true rfl) ⟨Nat.zero_le _, Nat.zero_le _⟩ ?_
  refine v_aload C dX8_element_45 rfl ?_
  refine v_getR C dX8_element_47 2 (by decide) hcii ((hI.up (hfq 7 (by decide))) _ _ hcelli) g_fl_X8_93 hf2i ?_
  exact v_iret C hr hlk dX8_element_50 (Nat.le_of_ble_eq_true rfl) (Nat.le_of_ble_eq_true rfl) ⟨rfl, rfl⟩

set_option maxHeartbeats 4000000 in
set_option maxRecDepth 100000 in
theorem x_element (l : Launch) (D : va_G) (B : Nat) (K : Nat → ClassId) (f : St) (q : Nat → Nat) (n na : Nat) (g : Nat → Option Nat) (fi : St) (sg : Nat → Sg) (E : Nat → List Ent) (ra : Nat → Nat) (kd : Nat → Int32) (i : Nat) (h : Nat → Int64) (k : Int64) (h0 : f (q 0) = some (.inr (6, [.ref (q 1), .ref (q 2), .ref (q 3), .ref (q 4), .ref (q 5), .ref (q 6), .int (nI n), .int (nI na)]))) (h4 : f (q 4) = some (.inl (K 3, 40, .inr (.inr (.inr (.inr (g))))))) (hn40 : n ≤ 40) (hT : RT K sg E ra kd fi n) (hI : Imm fi f) (hg : ∀ i, i < n → g i = some (ra i)) (h1 : f (q 1) = some (.inr (2, [.ref (q 7)]))) (h7 : f (q 7) = some (.inl (K 1, 8, .inr (.inl h)))) (hq : ∀ i j, i < 15 → j < 15 → q i = q j → i = j) (hfq : ∀ j, j < 15 → fi (q j) = none) (hi : i < n) (hk : ¬ rchS (prodE sg (E i)) k) (hlT : l.stackTraces = false) : Kx l D B K yX8_element cX8_element 5 ((some .int)) 50 1 6 [.ref (q 0), .int (nI i), .long k] f (Qi_ D B (fun _ _ => False)) (fun E9 f9 => E9 = "java/lang/IndexOutOfBoundsException" ∧ f9 = f) := by
  refine v_metX [(0, .ref (q 0)), (1, .int (nI i)), (2, .long k)] (by decide) (Nat.le_of_ble_eq_true rfl) rfl ?_
  intro p e s m args below meth c C hr hlk htab
  obtain ⟨cii, fsi, hcii, hcelli, hf0i, hf1i, hf2i, hf3i⟩ := RT_hdr (hT.2 i hi).1
  refine v_aload_n C dX8_element_0 rfl rfl ?_
  refine v_iload_n C dX8_element_1 rfl rfl ?_
  refine v_cq (r_V C (c_rangeOf_ok l D B K _ q n na g i (ra i) h0 h4 hi hn40 (hg i hi)) dX8_element_2 h0 rfl g_ml_X8_71 g_im_yX8_rangeOf g_se_X8_yX8_rangeOf_yX8_rangeOf g_in_X8 g_cd_yX8_rangeOf (rn_le (by decide)) (by decide) rfl rfl hdn_yX8_rangeOf (Nat.le_of_ble_eq_true rfl) ⟨Nat.le_of_ble_eq_true rfl, Nat.le_of_ble_eq_true rfl⟩) (fun r_2 f_2 hp_2 => ?_)
  obtain ⟨rfl, hf9⟩ := hp_2
  have hf9 := hf9.symm
  subst hf9
  refine v_rq rfl ?_
  refine v_astore C dX8_element_5 (by decide) rfl ?_
  refine v_aload C dX8_element_7 rfl ?_
  refine v_ifnonnull (tgt := 15) C dX8_element_9 (by decide) ?_
  refine v_aload C dX8_element_15 rfl ?_
  refine v_lload_n C dX8_element_17 rfl rfl ?_
  refine v_reach (ci := cii) (fs := fsi) C dX8_element_18 hcii (hI _ _ hcelli) hf3i g_ml_X8_129 (rn_le (by decide)) rfl (Nat.le_of_ble_eq_true rfl) ⟨Nat.zero_le _, Nat.zero_le _⟩ ?_
  refine v_if_ne (tgt := 34) C dX8_element_21 (by decide) (fun c_21 => absurd ((rch_eq _ _).mpr hk) c_21) (fun c_21 => ?_)
  exact v_throw (text := "the range has no element of this index") C hlT hlk htab dX8_element_24 dX8_element_27 dX8_element_28 dX8_element_30 dX8_element_33 xa5_I g_cl_X8_124 g_in_java_lang_IndexOutOfBoundsException (by decide) xa1_I xa2_I xa3_I xa4_I (by decide) (Nat.le_of_ble_eq_true rfl) (Nat.le_of_ble_eq_true rfl) (Nat.le_of_ble_eq_true rfl) (Nat.le_of_ble_eq_true rfl) (Nat.le_of_ble_eq_true rfl) ⟨rfl, rfl⟩

