/-! the program: go, array, put, at -/
/-- so many places farther there is one -/
def goS (P ix : Nat) (k : Int64) : Prop := 0 ≤ (ix : Int) + k.toInt ∧ ((ix : Int) + k.toInt).toNat < P ∧ (ix : Int) + k.toInt < 9223372036854775808
theorem go_big {ix : Nat} {k : Int64} (hi : ix < 9223372036854775808) : (9223372036854775807 - lN ix < k) ↔ 9223372036854775808 ≤ (ix : Int) + k.toInt := by
  rw [show (9223372036854775807 : Int64) = lN 9223372036854775807 from rfl, lN_sub (by omega), Int64.lt_iff_toInt_lt, pk_lT (by omega)]
  omega
theorem go_add {ix : Nat} {k : Int64} (hi : ix < 9223372036854775808) (h : ¬ 9223372036854775808 ≤ (ix : Int) + k.toInt) : (lN ix + k).toInt = (ix : Int) + k.toInt := by
  rw [Int64.toInt_add, pk_lT hi]
  have h1 := k.le_toInt
  exact Int.bmod_eq_of_le (by omega) (by omega)
set_option maxHeartbeats 4000000 in
set_option maxRecDepth 100000 in
theorem c_go_unk (l : Launch) (D : va_G) (B : Nat) (K : Nat → ClassId) (f : St) (q : Nat → Nat) (n na : Nat) (x : Int32) (h0 : f (q 0) = some (.inr (6, [.ref (q 1), .ref (q 2), .ref (q 3), .ref (q 4), .ref (q 5), .ref (q 6), .int (nI n), .int (nI na)]))) (hn40 : n ≤ 40) (hx : x < 0 ∨ nI n ≤ x) (k : Int64) : Kc l D B K yX8_go cX8_go 7 ((some .long)) 50 0 0 [.ref (q 0), .int x, .long k] f (Ql_ D B (fun r f9 => r = -1000000101 ∧ f9 = f)) := by
  refine v_met [(0, .ref (q 0)), (1, .int x), (2, .long k)] (by decide) (Nat.le_of_ble_eq_true rfl) rfl ?_
  intro p e s m args below meth c C hr hlk hin
  refine v_aload_n C dX8_go_0 rfl rfl ?_
  refine v_iload_n C dX8_go_1 rfl rfl ?_
  refine v_cq (r_V C (c_rangeOf_bad l D B K _ q n na x h0 hx hn40) dX8_go_2 h0 rfl g_ml_X8_71 g_im_yX8_rangeOf g_se_X8_yX8_rangeOf_yX8_rangeOf g_in_X8 g_cd_yX8_rangeOf (rn_le (by decide)) (by decide) rfl rfl hdn_yX8_rangeOf (Nat.le_of_ble_eq_true rfl) ⟨Nat.le_of_ble_eq_true rfl, Nat.le_of_ble_eq_true rfl⟩) (fun r_2 f_2 hp_2 => ?_)
  obtain ⟨rfl, rfl⟩ := hp_2
  refine v_rn rfl ?_
  refine v_astoreN C dX8_go_5 (by decide) rfl ?_
  refine v_aloadN C dX8_go_7 rfl ?_
  refine v_ifnonnullN C dX8_go_9 ?_
  refine v_bipush (v := (-101)) C dX8_go_12 (by decide) ?_
  refine v_cl (r_S C (c_longCode l D B K _ _) dX8_go_14 g_ml_X8_100 g_st_yX8_longCode g_in_X8 g_cd_yX8_longCode (rn_le (by decide)) (by decide) rfl hdn_yX8_longCode (Nat.le_of_ble_eq_true rfl) ⟨Nat.le_of_ble_eq_true rfl, Nat.le_of_ble_eq_true rfl⟩) (fun r_14 f_14 hp_14 => ?_)
  obtain ⟨rfl, rfl⟩ := hp_14
  exact v_lret C hr hlk dX8_go_17 (Nat.le_of_ble_eq_true rfl) (Nat.le_of_ble_eq_true rfl) ⟨by decide, rfl⟩

set_option maxHeartbeats 4000000 in
set_option maxRecDepth 100000 in
theorem c_go_many (l : Launch) (D : va_G) (B : Nat) (K : Nat → ClassId) (f : St) (q : Nat → Nat) (n na : Nat) (g : Nat → Option Nat) (fi : St) (sg : Nat → Sg) (E : Nat → List Ent) (ra : Nat → Nat) (kd : Nat → Int32) (i : Nat) (t x y z : Int32) (h : Nat → Int64) (h0 : f (q 0) = some (.inr (6, [.ref (q 1), .ref (q 2), .ref (q 3), .ref (q 4), .ref (q 5), .ref (q 6), .int (nI n), .int (nI na)]))) (h4 : f (q 4) = some (.inl (K 3, 40, .inr (.inr (.inr (.inr (g))))))) (hn40 : n ≤ 40) (hT : RT K sg E ra kd fi n) (hI : Imm fi f) (hg : ∀ i, i < n → g i = some (ra i)) (h1 : f (q 1) = some (.inr (2, [.ref (q 7)]))) (h7 : f (q 7) = some (.inl (K 1, 8, .inr (.inl h)))) (h3 : f (q 3) = some (.inr (3, [.int t, .int x, .int y, .int z]))) (hi : i < n) (k : Int64) (hm : missE sg h (E i) 0 = none) (hb : 9223372036854775808 ≤ idxE sg h (E i) 0 0) : Kc l D B K yX8_go cX8_go 7 ((some .long)) 50 0 0 [.ref (q 0), .int (nI i), .long k] f (Ql_ D B (fun r f9 => r = -1000000103 ∧ f9 = f)) := by
  refine v_met [(0, .ref (q 0)), (1, .int (nI i)), (2, .long k)] (by decide) (Nat.le_of_ble_eq_true rfl) rfl ?_
  intro p e s m args below meth c C hr hlk hin
  refine v_aload_n C dX8_go_0 rfl rfl ?_
  refine v_iload_n C dX8_go_1 rfl rfl ?_
  refine v_cq (r_V C (c_rangeOf_ok l D B K _ q n na g i (ra i) h0 h4 hi hn40 (hg i hi)) dX8_go_2 h0 rfl g_ml_X8_71 g_im_yX8_rangeOf g_se_X8_yX8_rangeOf_yX8_rangeOf g_in_X8 g_cd_yX8_rangeOf (rn_le (by decide)) (by decide) rfl rfl hdn_yX8_rangeOf (Nat.le_of_ble_eq_true rfl) ⟨Nat.le_of_ble_eq_true rfl, Nat.le_of_ble_eq_true rfl⟩) (fun r_2 f_2 hp_2 => ?_)
  obtain ⟨rfl, hf9⟩ := hp_2
  have hf9 := hf9.symm
  subst hf9
  refine v_rq rfl ?_
  refine v_astore C dX8_go_5 (by decide) rfl ?_
  refine v_aload C dX8_go_7 rfl ?_
  refine v_ifnonnull (tgt := 18) C dX8_go_9 (by decide) ?_
  refine v_aload_n C dX8_go_18 rfl rfl ?_
  refine v_aload C dX8_go_19 rfl ?_
  refine v_cl (r_V C (c_placeOfHand l D B K _ q n na fi sg E ra kd i t x y z h h0 hT hn40 hi hI h1 h7 h3) dX8_go_21 h0 rfl g_ml_X8_118 g_im_yX8_placeOfHand g_se_X8_yX8_placeOfHand_yX8_placeOfHand g_in_X8 g_cd_yX8_placeOfHand (rn_le (by decide)) (by decide) rfl rfl hdn_yX8_placeOfHand (Nat.le_of_ble_eq_true rfl) ⟨Nat.le_of_ble_eq_true rfl, Nat.le_of_ble_eq_true rfl⟩) (fun r_21 f_21 hp_21 => ?_)
  obtain ⟨rfl, hf9⟩ := hp_21
  rw [hm] at hf9
  have hf9 := hf9.symm
  subst hf9
  refine v_rl (show plR sg h (E i) 0 = sat (idxE sg h (E i) 0 0) by unfold plR; rw [hm]) ?_
  refine v_lstore C dX8_go_24 (by decide) rfl ?_
  refine v_lload C dX8_go_26 rfl ?_
  refine v_ldc2 C dX8_go_28 g_kl_X8_79 ?_
  refine v_lc_ne (tgt := 41) C dX8_go_31 dX8_go_32 (by decide) (fun c_31 => absurd (sat_ge hb) c_31) (fun c_31 => ?_)
  refine v_bipush (v := (-103)) C dX8_go_35 (by decide) ?_
  refine v_cl (r_S C (c_longCode l D B K _ _) dX8_go_37 g_ml_X8_100 g_st_yX8_longCode g_in_X8 g_cd_yX8_longCode (rn_le (by decide)) (by decide) rfl hdn_yX8_longCode (Nat.le_of_ble_eq_true rfl) ⟨Nat.le_of_ble_eq_true rfl, Nat.le_of_ble_eq_true rfl⟩) (fun r_37 f_37 hp_37 => ?_)
  obtain ⟨rfl, rfl⟩ := hp_37
  exact v_lret C hr hlk dX8_go_40 (Nat.le_of_ble_eq_true rfl) (Nat.le_of_ble_eq_true rfl) ⟨by decide, rfl⟩

set_option maxHeartbeats 4000000 in
set_option maxRecDepth 100000 in
theorem x_go_miss (l : Launch) (D : va_G) (B : Nat) (K : Nat → ClassId) (f : St) (q : Nat → Nat) (n na : Nat) (g : Nat → Option Nat) (fi : St) (sg : Nat → Sg) (E : Nat → List Ent) (ra : Nat → Nat) (kd : Nat → Int32) (i : Nat) (t x y z : Int32) (h : Nat → Int64) (h0 : f (q 0) = some (.inr (6, [.ref (q 1), .ref (q 2), .ref (q 3), .ref (q 4), .ref (q 5), .ref (q 6), .int (nI n), .int (nI na)]))) (h4 : f (q 4) = some (.inl (K 3, 40, .inr (.inr (.inr (.inr (g))))))) (hn40 : n ≤ 40) (hT : RT K sg E ra kd fi n) (hI : Imm fi f) (hg : ∀ i, i < n → g i = some (ra i)) (h1 : f (q 1) = some (.inr (2, [.ref (q 7)]))) (h7 : f (q 7) = some (.inl (K 1, 8, .inr (.inl h)))) (h3 : f (q 3) = some (.inr (3, [.int t, .int x, .int y, .int z]))) (hi : i < n) (k : Int64) (m9 : Nat × Ent) (hm : missE sg h (E i) 0 = some m9) (hlT : l.stackTraces = false) : Kx l D B K yX8_go cX8_go 7 ((some .long)) 50 1 6 [.ref (q 0), .int (nI i), .long k] f (Ql_ D B (fun _ _ => False)) (fun E9 f9 => E9 = "java/lang/IndexOutOfBoundsException" ∧ f9 = plF f (q 3) t 0 (some m9)) := by
  refine v_metX [(0, .ref (q 0)), (1, .int (nI i)), (2, .long k)] (by decide) (Nat.le_of_ble_eq_true rfl) rfl ?_
  intro p e s m args below meth c C hr hlk htab
  refine v_aload_n C dX8_go_0 rfl rfl ?_
  refine v_iload_n C dX8_go_1 rfl rfl ?_
  refine v_cq (r_V C (c_rangeOf_ok l D B K _ q n na g i (ra i) h0 h4 hi hn40 (hg i hi)) dX8_go_2 h0 rfl g_ml_X8_71 g_im_yX8_rangeOf g_se_X8_yX8_rangeOf_yX8_rangeOf g_in_X8 g_cd_yX8_rangeOf (rn_le (by decide)) (by decide) rfl rfl hdn_yX8_rangeOf (Nat.le_of_ble_eq_true rfl) ⟨Nat.le_of_ble_eq_true rfl, Nat.le_of_ble_eq_true rfl⟩) (fun r_2 f_2 hp_2 => ?_)
  obtain ⟨rfl, hf9⟩ := hp_2
  have hf9 := hf9.symm
  subst hf9
  refine v_rq rfl ?_
  refine v_astore C dX8_go_5 (by decide) rfl ?_
  refine v_aload C dX8_go_7 rfl ?_
  refine v_ifnonnull (tgt := 18) C dX8_go_9 (by decide) ?_
  refine v_aload_n C dX8_go_18 rfl rfl ?_
  refine v_aload C dX8_go_19 rfl ?_
  refine v_cl (r_V C (c_placeOfHand l D B K _ q n na fi sg E ra kd i t x y z h h0 hT hn40 hi hI h1 h7 h3) dX8_go_21 h0 rfl g_ml_X8_118 g_im_yX8_placeOfHand g_se_X8_yX8_placeOfHand_yX8_placeOfHand g_in_X8 g_cd_yX8_placeOfHand (rn_le (by decide)) (by decide) rfl rfl hdn_yX8_placeOfHand (Nat.le_of_ble_eq_true rfl) ⟨Nat.le_of_ble_eq_true rfl, Nat.le_of_ble_eq_true rfl⟩) (fun r_21 f_21 hp_21 => ?_)
  obtain ⟨rfl, hf9⟩ := hp_21
  rw [hm] at hf9
  refine v_rl (show plR sg h (E i) 0 = -2 by unfold plR; rw [hm]) ?_
  refine v_lstore C dX8_go_24 (by decide) rfl ?_
  refine v_lload C dX8_go_26 rfl ?_
  refine v_ldc2 C dX8_go_28 g_kl_X8_79 ?_
  refine v_lc_ne (tgt := 41) C dX8_go_31 dX8_go_32 (by decide) (fun c_31 => ?_) (fun c_31 => absurd c_31 (by decide))
  refine v_lload C dX8_go_41 rfl ?_
  refine v_ldc2 C dX8_go_43 g_kl_X8_122 ?_
  refine v_lc_ne (tgt := 60) C dX8_go_46 dX8_go_47 (by decide) (fun c_46 => absurd rfl c_46) (fun c_46 => ?_)
  exact v_throw (text := "the hand holds no element of the range") C hlT hlk htab dX8_go_50 dX8_go_53 dX8_go_54 dX8_go_56 dX8_go_59 xa5_I g_cl_X8_124 g_in_java_lang_IndexOutOfBoundsException (by decide) xa1_I xa2_I xa3_I xa4_I (by decide) (Nat.le_of_ble_eq_true rfl) (Nat.le_of_ble_eq_true rfl) (Nat.le_of_ble_eq_true rfl) (Nat.le_of_ble_eq_true rfl) (Nat.le_of_ble_eq_true rfl) ⟨rfl, hf9⟩

set_option maxHeartbeats 4000000 in
set_option maxRecDepth 100000 in
theorem x_go_big (l : Launch) (D : va_G) (B : Nat) (K : Nat → ClassId) (f : St) (q : Nat → Nat) (n na : Nat) (g : Nat → Option Nat) (fi : St) (sg : Nat → Sg) (E : Nat → List Ent) (ra : Nat → Nat) (kd : Nat → Int32) (i : Nat) (t x y z : Int32) (h : Nat → Int64) (h0 : f (q 0) = some (.inr (6, [.ref (q 1), .ref (q 2), .ref (q 3), .ref (q 4), .ref (q 5), .ref (q 6), .int (nI n), .int (nI na)]))) (h4 : f (q 4) = some (.inl (K 3, 40, .inr (.inr (.inr (.inr (g))))))) (hn40 : n ≤ 40) (hT : RT K sg E ra kd fi n) (hI : Imm fi f) (hg : ∀ i, i < n → g i = some (ra i)) (h1 : f (q 1) = some (.inr (2, [.ref (q 7)]))) (h7 : f (q 7) = some (.inl (K 1, 8, .inr (.inl h)))) (h3 : f (q 3) = some (.inr (3, [.int t, .int x, .int y, .int z]))) (hi : i < n) (k : Int64) (hm : missE sg h (E i) 0 = none) (hb : idxE sg h (E i) 0 0 < 9223372036854775808) (hk : 9223372036854775808 ≤ (idxE sg h (E i) 0 0 : Int) + k.toInt) (hlT : l.stackTraces = false) : Kx l D B K yX8_go cX8_go 7 ((some .long)) 50 1 6 [.ref (q 0), .int (nI i), .long k] f (Ql_ D B (fun _ _ => False)) (fun E9 f9 => E9 = "java/lang/IndexOutOfBoundsException" ∧ f9 = f) := by
  refine v_metX [(0, .ref (q 0)), (1, .int (nI i)), (2, .long k)] (by decide) (Nat.le_of_ble_eq_true rfl) rfl ?_
  intro p e s m args below meth c C hr hlk htab
  obtain ⟨cii, fsi, hcii, hcelli, hf0i, hf1i, hf2i, hf3i⟩ := RT_hdr (hT.2 i hi).1
  refine v_aload_n C dX8_go_0 rfl rfl ?_
  refine v_iload_n C dX8_go_1 rfl rfl ?_
  refine v_cq (r_V C (c_rangeOf_ok l D B K _ q n na g i (ra i) h0 h4 hi hn40 (hg i hi)) dX8_go_2 h0 rfl g_ml_X8_71 g_im_yX8_rangeOf g_se_X8_yX8_rangeOf_yX8_rangeOf g_in_X8 g_cd_yX8_rangeOf (rn_le (by decide)) (by decide) rfl rfl hdn_yX8_rangeOf (Nat.le_of_ble_eq_true rfl) ⟨Nat.le_of_ble_eq_true rfl, Nat.le_of_ble_eq_true rfl⟩) (fun r_2 f_2 hp_2 => ?_)
  obtain ⟨rfl, hf9⟩ := hp_2
  have hf9 := hf9.symm
  subst hf9
  refine v_rq rfl ?_
  refine v_astore C dX8_go_5 (by decide) rfl ?_
  refine v_aload C dX8_go_7 rfl ?_
  refine v_ifnonnull (tgt := 18) C dX8_go_9 (by decide) ?_
  refine v_aload_n C dX8_go_18 rfl rfl ?_
  refine v_aload C dX8_go_19 rfl ?_
  refine v_cl (r_V C (c_placeOfHand l D B K _ q n na fi sg E ra kd i t x y z h h0 hT hn40 hi hI h1 h7 h3) dX8_go_21 h0 rfl g_ml_X8_118 g_im_yX8_placeOfHand g_se_X8_yX8_placeOfHand_yX8_placeOfHand g_in_X8 g_cd_yX8_placeOfHand (rn_le (by decide)) (by decide) rfl rfl hdn_yX8_placeOfHand (Nat.le_of_ble_eq_true rfl) ⟨Nat.le_of_ble_eq_true rfl, Nat.le_of_ble_eq_true rfl⟩) (fun r_21 f_21 hp_21 => ?_)
  obtain ⟨rfl, hf9⟩ := hp_21
  rw [hm] at hf9
  have hf9 := hf9.symm
  subst hf9
  refine v_rl (show plR sg h (E i) 0 = sat (idxE sg h (E i) 0 0) by unfold plR; rw [hm]) ?_
  refine v_rl (sat_lt hb) ?_
  refine v_lstore C dX8_go_24 (by decide) rfl ?_
  refine v_lload C dX8_go_26 rfl ?_
  refine v_ldc2 C dX8_go_28 g_kl_X8_79 ?_
  refine v_lc_ne (tgt := 41) C dX8_go_31 dX8_go_32 (by decide) (fun c_31 => ?_) (fun c_31 => absurd c_31 (fun h9 => by rw [← sat_lt hb] at h9; have h8 := (sat_m1 _).mp h9; omega))
  refine v_lload C dX8_go_41 rfl ?_
  refine v_ldc2 C dX8_go_43 g_kl_X8_122 ?_
  refine v_lc_ne (tgt := 60) C dX8_go_46 dX8_go_47 (by decide) (fun c_46 => ?_) (fun c_46 => absurd c_46 (fun h9 => by rw [← sat_lt hb] at h9; exact sat_n2 _ h9))
  refine v_lload_n C dX8_go_60 rfl rfl ?_
  refine v_ldc2 C dX8_go_61 g_kl_X8_141 ?_
  refine v_lload C dX8_go_64 rfl ?_
  refine v_lsub C dX8_go_66 ?_
  refine v_lc_gt (tgt := 83) C dX8_go_67 dX8_go_68 (by decide) (fun c_67 => ?_) (fun c_67 => absurd ((go_big hb).mpr hk) c_67)
  exact v_throw (text := "the range has no such place") C hlT hlk htab dX8_go_83 dX8_go_86 dX8_go_87 dX8_go_89 dX8_go_92 xa5_I g_cl_X8_124 g_in_java_lang_IndexOutOfBoundsException (by decide) xa1_I xa2_I xa3_I xa4_I (by decide) (Nat.le_of_ble_eq_true rfl) (Nat.le_of_ble_eq_true rfl) (Nat.le_of_ble_eq_true rfl) (Nat.le_of_ble_eq_true rfl) (Nat.le_of_ble_eq_true rfl) ⟨rfl, rfl⟩

set_option maxHeartbeats 4000000 in
set_option maxRecDepth 100000 in
theorem x_go_no (l : Launch) (D : va_G) (B : Nat) (K : Nat → ClassId) (f : St) (q : Nat → Nat) (n na : Nat) (g : Nat → Option Nat) (fi : St) (sg : Nat → Sg) (E : Nat → List Ent) (ra : Nat → Nat) (kd : Nat → Int32) (i : Nat) (t x y z : Int32) (h : Nat → Int64) (h0 : f (q 0) = some (.inr (6, [.ref (q 1), .ref (q 2), .ref (q 3), .ref (q 4), .ref (q 5), .ref (q 6), .int (nI n), .int (nI na)]))) (h4 : f (q 4) = some (.inl (K 3, 40, .inr (.inr (.inr (.inr (g))))))) (hn40 : n ≤ 40) (hT : RT K sg E ra kd fi n) (hI : Imm fi f) (hg : ∀ i, i < n → g i = some (ra i)) (h1 : f (q 1) = some (.inr (2, [.ref (q 7)]))) (h7 : f (q 7) = some (.inl (K 1, 8, .inr (.inl h)))) (h3 : f (q 3) = some (.inr (3, [.int t, .int x, .int y, .int z]))) (hi : i < n) (k : Int64) (hm : missE sg h (E i) 0 = none) (hb : idxE sg h (E i) 0 0 < 9223372036854775808) (hk : ¬ 9223372036854775808 ≤ (idxE sg h (E i) 0 0 : Int) + k.toInt) (hk2 : ¬ rchS (prodE sg (E i)) (lN (idxE sg h (E i) 0 0) + k)) (hlT : l.stackTraces = false) : Kx l D B K yX8_go cX8_go 7 ((some .long)) 50 1 6 [.ref (q 0), .int (nI i), .long k] f (Ql_ D B (fun _ _ => False)) (fun E9 f9 => E9 = "java/lang/IndexOutOfBoundsException" ∧ f9 = f) := by
  refine v_metX [(0, .ref (q 0)), (1, .int (nI i)), (2, .long k)] (by decide) (Nat.le_of_ble_eq_true rfl) rfl ?_
  intro p e s m args below meth c C hr hlk htab
  obtain ⟨cii, fsi, hcii, hcelli, hf0i, hf1i, hf2i, hf3i⟩ := RT_hdr (hT.2 i hi).1
  refine v_aload_n C dX8_go_0 rfl rfl ?_
  refine v_iload_n C dX8_go_1 rfl rfl ?_
  refine v_cq (r_V C (c_rangeOf_ok l D B K _ q n na g i (ra i) h0 h4 hi hn40 (hg i hi)) dX8_go_2 h0 rfl g_ml_X8_71 g_im_yX8_rangeOf g_se_X8_yX8_rangeOf_yX8_rangeOf g_in_X8 g_cd_yX8_rangeOf (rn_le (by decide)) (by decide) rfl rfl hdn_yX8_rangeOf (Nat.le_of_ble_eq_true rfl) ⟨Nat.le_of_ble_eq_true rfl, Nat.le_of_ble_eq_true rfl⟩) (fun r_2 f_2 hp_2 => ?_)
  obtain ⟨rfl, hf9⟩ := hp_2
  have hf9 := hf9.symm
  subst hf9
  refine v_rq rfl ?_
  refine v_astore C dX8_go_5 (by decide) rfl ?_
  refine v_aload C dX8_go_7 rfl ?_
  refine v_ifnonnull (tgt := 18) C dX8_go_9 (by decide) ?_
  refine v_aload_n C dX8_go_18 rfl rfl ?_
  refine v_aload C dX8_go_19 rfl ?_
  refine v_cl (r_V C (c_placeOfHand l D B K _ q n na fi sg E ra kd i t x y z h h0 hT hn40 hi hI h1 h7 h3) dX8_go_21 h0 rfl g_ml_X8_118 g_im_yX8_placeOfHand g_se_X8_yX8_placeOfHand_yX8_placeOfHand g_in_X8 g_cd_yX8_placeOfHand (rn_le (by decide)) (by decide) rfl rfl hdn_yX8_placeOfHand (Nat.le_of_ble_eq_true rfl) ⟨Nat.le_of_ble_eq_true rfl, Nat.le_of_ble_eq_true rfl⟩) (fun r_21 f_21 hp_21 => ?_)
  obtain ⟨rfl, hf9⟩ := hp_21
  rw [hm] at hf9
  have hf9 := hf9.symm
  subst hf9
  refine v_rl (show plR sg h (E i) 0 = sat (idxE sg h (E i) 0 0) by unfold plR; rw [hm]) ?_
  refine v_rl (sat_lt hb) ?_
  refine v_lstore C dX8_go_24 (by decide) rfl ?_
  refine v_lload C dX8_go_26 rfl ?_
  refine v_ldc2 C dX8_go_28 g_kl_X8_79 ?_
  refine v_lc_ne (tgt := 41) C dX8_go_31 dX8_go_32 (by decide) (fun c_31 => ?_) (fun c_31 => absurd c_31 (fun h9 => by rw [← sat_lt hb] at h9; have h8 := (sat_m1 _).mp h9; omega))
  refine v_lload C dX8_go_41 rfl ?_
  refine v_ldc2 C dX8_go_43 g_kl_X8_122 ?_
  refine v_lc_ne (tgt := 60) C dX8_go_46 dX8_go_47 (by decide) (fun c_46 => ?_) (fun c_46 => absurd c_46 (fun h9 => by rw [← sat_lt hb] at h9; exact sat_n2 _ h9))
  refine v_lload_n C dX8_go_60 rfl rfl ?_
  refine v_ldc2 C dX8_go_61 g_kl_X8_141 ?_
  refine v_lload C dX8_go_64 rfl ?_
  refine v_lsub C dX8_go_66 ?_
  refine v_lc_gt (tgt := 83) C dX8_go_67 dX8_go_68 (by decide) (fun c_67 => absurd c_67 (fun h9 => hk ((go_big hb).mp h9))) (fun c_67 => ?_)
  refine v_aload C dX8_go_71 rfl ?_
  refine v_lload C dX8_go_73 rfl ?_
  refine v_lload_n C dX8_go_75 rfl rfl ?_
  refine v_ladd C dX8_go_76 ?_
  refine v_reach (ci := cii) (fs := fsi) C dX8_go_77 hcii (hI _ _ hcelli) hf3i g_ml_X8_129 (rn_le (by decide)) rfl (Nat.le_of_ble_eq_true rfl) ⟨Nat.zero_le _, Nat.zero_le _⟩ ?_
  refine v_if_ne (tgt := 93) C dX8_go_80 (by decide) (fun c_80 => absurd ((rch_eq _ _).mpr hk2) c_80) (fun c_80 => ?_)
  exact v_throw (text := "the range has no such place") C hlT hlk htab dX8_go_83 dX8_go_86 dX8_go_87 dX8_go_89 dX8_go_92 xa5_I g_cl_X8_124 g_in_java_lang_IndexOutOfBoundsException (by decide) xa1_I xa2_I xa3_I xa4_I (by decide) (Nat.le_of_ble_eq_true rfl) (Nat.le_of_ble_eq_true rfl) (Nat.le_of_ble_eq_true rfl) (Nat.le_of_ble_eq_true rfl) (Nat.le_of_ble_eq_true rfl) ⟨rfl, rfl⟩

set_option maxHeartbeats 4000000 in
set_option maxRecDepth 100000 in
theorem c_go_ok (l : Launch) (D : va_G) (B : Nat) (K : Nat → ClassId) (f : St) (q : Nat → Nat) (n na : Nat) (g : Nat → Option Nat) (fi : St) (sg : Nat → Sg) (E : Nat → List Ent) (ra : Nat → Nat) (kd : Nat → Int32) (i : Nat) (t x y z : Int32) (h : Nat → Int64) (h0 : f (q 0) = some (.inr (6, [.ref (q 1), .ref (q 2), .ref (q 3), .ref (q 4), .ref (q 5), .ref (q 6), .int (nI n), .int (nI na)]))) (h4 : f (q 4) = some (.inl (K 3, 40, .inr (.inr (.inr (.inr (g))))))) (hn40 : n ≤ 40) (hT : RT K sg E ra kd fi n) (hI : Imm fi f) (hg : ∀ i, i < n → g i = some (ra i)) (h1 : f (q 1) = some (.inr (2, [.ref (q 7)]))) (h7 : f (q 7) = some (.inl (K 1, 8, .inr (.inl h)))) (h3 : f (q 3) = some (.inr (3, [.int t, .int x, .int y, .int z]))) (hi : i < n) (k : Int64) (hq : ∀ i j, i < 15 → j < 15 → q i = q j → i = j) (hfq : ∀ j, j < 15 → fi (q j) = none) (hm : missE sg h (E i) 0 = none) (hb : idxE sg h (E i) 0 0 < 9223372036854775808) (hk : ¬ 9223372036854775808 ≤ (idxE sg h (E i) 0 0 : Int) + k.toInt) (hk2 : rchS (prodE sg (E i)) (lN (idxE sg h (E i) 0 0) + k)) : Kc l D B K yX8_go cX8_go 7 ((some .long)) 50 0 0 [.ref (q 0), .int (nI i), .long k] f (Ql_ D B (fun r f9 => r = lN (idxE sg h (E i) 0 0) + k ∧ f9 = va_up f (q 7) (some (.inl (K 1, 8, .inr (.inl (filG sg (E i) 0 (lN (idxE sg h (E i) 0 0) + k).toInt.toNat h))))))) := by
  refine v_met [(0, .ref (q 0)), (1, .int (nI i)), (2, .long k)] (by decide) (Nat.le_of_ble_eq_true rfl) rfl ?_
  intro p e s m args below meth c C hr hlk hin
  obtain ⟨cii, fsi, hcii, hcelli, hf0i, hf1i, hf2i, hf3i⟩ := RT_hdr (hT.2 i hi).1
  obtain ⟨ek, hkl⟩ := l_of_pos hk2.1
  refine v_aload_n C dX8_go_0 rfl rfl ?_
  refine v_iload_n C dX8_go_1 rfl rfl ?_
  refine v_cq (r_V C (c_rangeOf_ok l D B K _ q n na g i (ra i) h0 h4 hi hn40 (hg i hi)) dX8_go_2 h0 rfl g_ml_X8_71 g_im_yX8_rangeOf g_se_X8_yX8_rangeOf_yX8_rangeOf g_in_X8 g_cd_yX8_rangeOf (rn_le (by decide)) (by decide) rfl rfl hdn_yX8_rangeOf (Nat.le_of_ble_eq_true rfl) ⟨Nat.le_of_ble_eq_true rfl, Nat.le_of_ble_eq_true rfl⟩) (fun r_2 f_2 hp_2 => ?_)
  obtain ⟨rfl, hf9⟩ := hp_2
  have hf9 := hf9.symm
  subst hf9
  refine v_rq rfl ?_
  refine v_astore C dX8_go_5 (by decide) rfl ?_
  refine v_aload C dX8_go_7 rfl ?_
  refine v_ifnonnull (tgt := 18) C dX8_go_9 (by decide) ?_
  refine v_aload_n C dX8_go_18 rfl rfl ?_
  refine v_aload C dX8_go_19 rfl ?_
  refine v_cl (r_V C (c_placeOfHand l D B K _ q n na fi sg E ra kd i t x y z h h0 hT hn40 hi hI h1 h7 h3) dX8_go_21 h0 rfl g_ml_X8_118 g_im_yX8_placeOfHand g_se_X8_yX8_placeOfHand_yX8_placeOfHand g_in_X8 g_cd_yX8_placeOfHand (rn_le (by decide)) (by decide) rfl rfl hdn_yX8_placeOfHand (Nat.le_of_ble_eq_true rfl) ⟨Nat.le_of_ble_eq_true rfl, Nat.le_of_ble_eq_true rfl⟩) (fun r_21 f_21 hp_21 => ?_)
  obtain ⟨rfl, hf9⟩ := hp_21
  rw [hm] at hf9
  have hf9 := hf9.symm
  subst hf9
  refine v_rl (show plR sg h (E i) 0 = sat (idxE sg h (E i) 0 0) by unfold plR; rw [hm]) ?_
  refine v_rl (sat_lt hb) ?_
  refine v_lstore C dX8_go_24 (by decide) rfl ?_
  refine v_lload C dX8_go_26 rfl ?_
  refine v_ldc2 C dX8_go_28 g_kl_X8_79 ?_
  refine v_lc_ne (tgt := 41) C dX8_go_31 dX8_go_32 (by decide) (fun c_31 => ?_) (fun c_31 => absurd c_31 (fun h9 => by rw [← sat_lt hb] at h9; have h8 := (sat_m1 _).mp h9; omega))
  refine v_lload C dX8_go_41 rfl ?_
  refine v_ldc2 C dX8_go_43 g_kl_X8_122 ?_
  refine v_lc_ne (tgt := 60) C dX8_go_46 dX8_go_47 (by decide) (fun c_46 => ?_) (fun c_46 => absurd c_46 (fun h9 => by rw [← sat_lt hb] at h9; exact sat_n2 _ h9))
  refine v_lload_n C dX8_go_60 rfl rfl ?_
  refine v_ldc2 C dX8_go_61 g_kl_X8_141 ?_
  refine v_lload C dX8_go_64 rfl ?_
  refine v_lsub C dX8_go_66 ?_
  refine v_lc_gt (tgt := 83) C dX8_go_67 dX8_go_68 (by decide) (fun c_67 => absurd c_67 (fun h9 => hk ((go_big hb).mp h9))) (fun c_67 => ?_)
  refine v_aload C dX8_go_71 rfl ?_
  refine v_lload C dX8_go_73 rfl ?_
  refine v_lload_n C dX8_go_75 rfl rfl ?_
  refine v_ladd C dX8_go_76 ?_
  refine v_reach (ci := cii) (fs := fsi) C dX8_go_77 hcii (hI _ _ hcelli) hf3i g_ml_X8_129 (rn_le (by decide)) rfl (Nat.le_of_ble_eq_true rfl) ⟨Nat.zero_le _, Nat.zero_le _⟩ ?_
  refine v_if_ne (tgt := 93) C dX8_go_80 (by decide) (fun c_80 => ?_) (fun c_80 => absurd c_80 (fun h9 => (rch_eq _ _).mp h9 hk2))
  refine v_aload C dX8_go_93 rfl ?_
  refine v_aload_n C dX8_go_95 rfl rfl ?_
  refine v_get C dX8_go_96 0 h0 rfl in_X8 (by decide) g_fl_X8_10 (fun _ h9 => h9) rfl ?_
  refine v_iconst (v := 0) C dX8_go_99 (by decide) ?_
  refine v_lload C dX8_go_100 rfl ?_
  refine v_lload_n C dX8_go_102 rfl rfl ?_
  refine v_ladd C dX8_go_103 ?_
  refine v_rl ek ?_
  refine v_fill (i := i) (a := 0) (k9 := (lN (idxE sg h (E i) 0 0) + k).toInt.toNat) C dX8_go_104 (hT.2 i hi).1 (fill_all l D B K hT i hi) hI (hfq 7 (by decide)) h1 (fun e9 => absurd (hq 1 7 (by decide) (by decide) e9) (by decide)) h7 (by have h9 := (hT.2 i hi).2.1; omega) hk2.2 (by omega) g_ml_X8_135 (rn_le (by omega)) rfl (Nat.le_of_ble_eq_true rfl) ⟨Nat.zero_le _, Nat.zero_le _⟩ ?_
  refine v_lload C dX8_go_107 rfl ?_
  refine v_lload_n C dX8_go_109 rfl rfl ?_
  refine v_ladd C dX8_go_110 ?_
  exact v_lret C hr hlk dX8_go_111 (Nat.le_of_ble_eq_true rfl) (Nat.le_of_ble_eq_true rfl) ⟨rfl, rfl⟩

set_option maxHeartbeats 4000000 in
set_option maxRecDepth 100000 in
theorem c_array_unk (l : Launch) (D : va_G) (B : Nat) (K : Nat → ClassId) (f : St) (q : Nat → Nat) (n na : Nat) (x : Int32) (h0 : f (q 0) = some (.inr (6, [.ref (q 1), .ref (q 2), .ref (q 3), .ref (q 4), .ref (q 5), .ref (q 6), .int (nI n), .int (nI na)]))) (hn40 : n ≤ 40) (hx : x < 0 ∨ nI n ≤ x) : Kc l D B K yX8_array cX8_array 3 ((some .int)) 50 0 0 [.ref (q 0), .int x] f (Qi_ D B (fun r f9 => r = -101 ∧ f9 = f)) := by
  refine v_met [(0, .ref (q 0)), (1, .int x)] (by decide) (Nat.le_of_ble_eq_true rfl) rfl ?_
  intro p e s m args below meth c C hr hlk hin
  refine v_aload_n C dX8_array_0 rfl rfl ?_
  refine v_iload_n C dX8_array_1 rfl rfl ?_
  refine v_cq (r_V C (c_rangeOf_bad l D B K _ q n na x h0 hx hn40) dX8_array_2 h0 rfl g_ml_X8_71 g_im_yX8_rangeOf g_se_X8_yX8_rangeOf_yX8_rangeOf g_in_X8 g_cd_yX8_rangeOf (rn_le (by decide)) (by decide) rfl rfl hdn_yX8_rangeOf (Nat.le_of_ble_eq_true rfl) ⟨Nat.le_of_ble_eq_true rfl, Nat.le_of_ble_eq_true rfl⟩) (fun r_2 f_2 hp_2 => ?_)
  obtain ⟨rfl, rfl⟩ := hp_2
  refine v_rn rfl ?_
  refine v_astore_nN C dX8_array_5 rfl (by decide) rfl ?_
  refine v_aload_nN C dX8_array_6 rfl rfl ?_
  refine v_ifnonnullN C dX8_array_7 ?_
  refine v_bipush (v := (-101)) C dX8_array_10 (by decide) ?_
  exact v_iret C hr hlk dX8_array_12 (Nat.le_of_ble_eq_true rfl) (Nat.le_of_ble_eq_true rfl) ⟨rfl, rfl⟩

set_option maxHeartbeats 4000000 in
set_option maxRecDepth 100000 in
theorem c_array_room (l : Launch) (D : va_G) (B : Nat) (K : Nat → ClassId) (f : St) (q : Nat → Nat) (n na : Nat) (g : Nat → Option Nat) (fi : St) (sg : Nat → Sg) (E : Nat → List Ent) (ra : Nat → Nat) (kd : Nat → Int32) (i : Nat) (h0 : f (q 0) = some (.inr (6, [.ref (q 1), .ref (q 2), .ref (q 3), .ref (q 4), .ref (q 5), .ref (q 6), .int (nI n), .int (nI na)]))) (h4 : f (q 4) = some (.inl (K 3, 40, .inr (.inr (.inr (.inr (g))))))) (hn40 : n ≤ 40) (hT : RT K sg E ra kd fi n) (hI : Imm fi f) (hg : ∀ i, i < n → g i = some (ra i)) (hi : i < n) (hna : na = 6) : Kc l D B K yX8_array cX8_array 3 ((some .int)) 50 0 0 [.ref (q 0), .int (nI i)] f (Qi_ D B (fun r f9 => r = -104 ∧ f9 = f)) := by
  refine v_met [(0, .ref (q 0)), (1, .int (nI i))] (by decide) (Nat.le_of_ble_eq_true rfl) rfl ?_
  intro p e s m args below meth c C hr hlk hin
  refine v_aload_n C dX8_array_0 rfl rfl ?_
  refine v_iload_n C dX8_array_1 rfl rfl ?_
  refine v_cq (r_V C (c_rangeOf_ok l D B K _ q n na g i (ra i) h0 h4 hi hn40 (hg i hi)) dX8_array_2 h0 rfl g_ml_X8_71 g_im_yX8_rangeOf g_se_X8_yX8_rangeOf_yX8_rangeOf g_in_X8 g_cd_yX8_rangeOf (rn_le (by decide)) (by decide) rfl rfl hdn_yX8_rangeOf (Nat.le_of_ble_eq_true rfl) ⟨Nat.le_of_ble_eq_true rfl, Nat.le_of_ble_eq_true rfl⟩) (fun r_2 f_2 hp_2 => ?_)
  obtain ⟨rfl, hf9⟩ := hp_2
  have hf9 := hf9.symm
  subst hf9
  refine v_rq rfl ?_
  refine v_astore_n C dX8_array_5 rfl (by decide) rfl ?_
  refine v_aload_n C dX8_array_6 rfl rfl ?_
  refine v_ifnonnull (tgt := 13) C dX8_array_7 (by decide) ?_
  refine v_aload_n C dX8_array_13 rfl rfl ?_
  refine v_get C dX8_array_14 7 h0 rfl in_X8 (by decide) g_fl_X8_44 (fun _ h9 => h9) rfl ?_
  refine v_bipush (v := 6) C dX8_array_17 (by decide) ?_
  refine v_icmp_lt (tgt := 25) C dX8_array_19 (by decide) (fun c_19 => absurd c_19 (by rw [hna]; decide)) (fun c_19 => ?_)
  refine v_bipush (v := (-104)) C dX8_array_22 (by decide) ?_
  exact v_iret C hr hlk dX8_array_24 (Nat.le_of_ble_eq_true rfl) (Nat.le_of_ble_eq_true rfl) ⟨rfl, rfl⟩

set_option maxHeartbeats 4000000 in
set_option maxRecDepth 100000 in
theorem x_array_many (l : Launch) (D : va_G) (B : Nat) (K : Nat → ClassId) (f : St) (q : Nat → Nat) (n na : Nat) (g : Nat → Option Nat) (fi : St) (sg : Nat → Sg) (E : Nat → List Ent) (ra : Nat → Nat) (kd : Nat → Int32) (i : Nat) (h0 : f (q 0) = some (.inr (6, [.ref (q 1), .ref (q 2), .ref (q 3), .ref (q 4), .ref (q 5), .ref (q 6), .int (nI n), .int (nI na)]))) (h4 : f (q 4) = some (.inl (K 3, 40, .inr (.inr (.inr (.inr (g))))))) (hn40 : n ≤ 40) (hT : RT K sg E ra kd fi n) (hI : Imm fi f) (hg : ∀ i, i < n → g i = some (ra i)) (hi : i < n) (hna : na < 6) (hz : 9223372036854775808 ≤ prodE sg (E i)) (hlT : l.stackTraces = false) : Kx l D B K yX8_array cX8_array 3 ((some .int)) 50 1 6 [.ref (q 0), .int (nI i)] f (Qi_ D B (fun _ _ => False)) (fun E9 f9 => E9 = "java/lang/NegativeArraySizeException" ∧ f9 = f) := by
  refine v_metX [(0, .ref (q 0)), (1, .int (nI i))] (by decide) (Nat.le_of_ble_eq_true rfl) rfl ?_
  intro p e s m args below meth c C hr hlk htab
  obtain ⟨cii, fsi, hcii, hcelli, hf0i, hf1i, hf2i, hf3i⟩ := RT_hdr (hT.2 i hi).1
  refine v_aload_n C dX8_array_0 rfl rfl ?_
  refine v_iload_n C dX8_array_1 rfl rfl ?_
  refine v_cq (r_V C (c_rangeOf_ok l D B K _ q n na g i (ra i) h0 h4 hi hn40 (hg i hi)) dX8_array_2 h0 rfl g_ml_X8_71 g_im_yX8_rangeOf g_se_X8_yX8_rangeOf_yX8_rangeOf g_in_X8 g_cd_yX8_rangeOf (rn_le (by decide)) (by decide) rfl rfl hdn_yX8_rangeOf (Nat.le_of_ble_eq_true rfl) ⟨Nat.le_of_ble_eq_true rfl, Nat.le_of_ble_eq_true rfl⟩) (fun r_2 f_2 hp_2 => ?_)
  obtain ⟨rfl, hf9⟩ := hp_2
  have hf9 := hf9.symm
  subst hf9
  refine v_rq rfl ?_
  refine v_astore_n C dX8_array_5 rfl (by decide) rfl ?_
  refine v_aload_n C dX8_array_6 rfl rfl ?_
  refine v_ifnonnull (tgt := 13) C dX8_array_7 (by decide) ?_
  refine v_aload_n C dX8_array_13 rfl rfl ?_
  refine v_get C dX8_array_14 7 h0 rfl in_X8 (by decide) g_fl_X8_44 (fun _ h9 => h9) rfl ?_
  refine v_bipush (v := 6) C dX8_array_17 (by decide) ?_
  refine v_icmp_lt (tgt := 25) C dX8_array_19 (by decide) (fun c_19 => ?_) (fun c_19 => absurd (show nI na < 6 from (nI_ltI (b := 6) (by omega) (by omega)).mpr hna) c_19)
  refine v_aload_n C dX8_array_25 rfl rfl ?_
  refine v_getR C dX8_array_26 3 (by decide) hcii (hI _ _ hcelli) g_fl_X8_75 hf3i ?_
  refine v_ldc2 C dX8_array_29 g_kl_X8_79 ?_
  refine v_lc_ne (tgt := 46) C dX8_array_32 dX8_array_33 (by decide) (fun c_32 => absurd (sat_ge hz) c_32) (fun c_32 => ?_)
  exact v_throw (text := "the size of the range is many") C hlT hlk htab dX8_array_36 dX8_array_39 dX8_array_40 dX8_array_42 dX8_array_45 xa5_N g_cl_X8_161 g_in_Jxde1cd (by decide) xa1_N xa2_N xa3_N xa4_N (by decide) (Nat.le_of_ble_eq_true rfl) (Nat.le_of_ble_eq_true rfl) (Nat.le_of_ble_eq_true rfl) (Nat.le_of_ble_eq_true rfl) (Nat.le_of_ble_eq_true rfl) ⟨rfl, rfl⟩

set_option maxHeartbeats 4000000 in
set_option maxRecDepth 100000 in
theorem x_array_big (l : Launch) (D : va_G) (B : Nat) (K : Nat → ClassId) (f : St) (q : Nat → Nat) (n na : Nat) (g : Nat → Option Nat) (fi : St) (sg : Nat → Sg) (E : Nat → List Ent) (ra : Nat → Nat) (kd : Nat → Int32) (i : Nat) (h0 : f (q 0) = some (.inr (6, [.ref (q 1), .ref (q 2), .ref (q 3), .ref (q 4), .ref (q 5), .ref (q 6), .int (nI n), .int (nI na)]))) (h4 : f (q 4) = some (.inl (K 3, 40, .inr (.inr (.inr (.inr (g))))))) (hn40 : n ≤ 40) (hT : RT K sg E ra kd fi n) (hI : Imm fi f) (hg : ∀ i, i < n → g i = some (ra i)) (hi : i < n) (hna : na < 6) (hz : prodE sg (E i) < 9223372036854775808) (hz2 : 400 < prodE sg (E i)) (hlT : l.stackTraces = false) : Kx l D B K yX8_array cX8_array 3 ((some .int)) 50 1 6 [.ref (q 0), .int (nI i)] f (Qi_ D B (fun _ _ => False)) (fun E9 f9 => E9 = "java/lang/IllegalArgumentException" ∧ f9 = f) := by
  refine v_metX [(0, .ref (q 0)), (1, .int (nI i))] (by decide) (Nat.le_of_ble_eq_true rfl) rfl ?_
  intro p e s m args below meth c C hr hlk htab
  obtain ⟨cii, fsi, hcii, hcelli, hf0i, hf1i, hf2i, hf3i⟩ := RT_hdr (hT.2 i hi).1
  refine v_aload_n C dX8_array_0 rfl rfl ?_
  refine v_iload_n C dX8_array_1 rfl rfl ?_
  refine v_cq (r_V C (c_rangeOf_ok l D B K _ q n na g i (ra i) h0 h4 hi hn40 (hg i hi)) dX8_array_2 h0 rfl g_ml_X8_71 g_im_yX8_rangeOf g_se_X8_yX8_rangeOf_yX8_rangeOf g_in_X8 g_cd_yX8_rangeOf (rn_le (by decide)) (by decide) rfl rfl hdn_yX8_rangeOf (Nat.le_of_ble_eq_true rfl) ⟨Nat.le_of_ble_eq_true rfl, Nat.le_of_ble_eq_true rfl⟩) (fun r_2 f_2 hp_2 => ?_)
  obtain ⟨rfl, hf9⟩ := hp_2
  have hf9 := hf9.symm
  subst hf9
  refine v_rq rfl ?_
  refine v_astore_n C dX8_array_5 rfl (by decide) rfl ?_
  refine v_aload_n C dX8_array_6 rfl rfl ?_
  refine v_ifnonnull (tgt := 13) C dX8_array_7 (by decide) ?_
  refine v_aload_n C dX8_array_13 rfl rfl ?_
  refine v_get C dX8_array_14 7 h0 rfl in_X8 (by decide) g_fl_X8_44 (fun _ h9 => h9) rfl ?_
  refine v_bipush (v := 6) C dX8_array_17 (by decide) ?_
  refine v_icmp_lt (tgt := 25) C dX8_array_19 (by decide) (fun c_19 => ?_) (fun c_19 => absurd (show nI na < 6 from (nI_ltI (b := 6) (by omega) (by omega)).mpr hna) c_19)
  refine v_aload_n C dX8_array_25 rfl rfl ?_
  refine v_getR C dX8_array_26 3 (by decide) hcii (hI _ _ hcelli) g_fl_X8_75 hf3i ?_
  refine v_ldc2 C dX8_array_29 g_kl_X8_79 ?_
  refine v_lc_ne (tgt := 46) C dX8_array_32 dX8_array_33 (by decide) (fun c_32 => ?_) (fun c_32 => absurd c_32 (fun h9 => by have h8 := (sat_m1 _).mp h9; omega))
  refine v_aload_n C dX8_array_46 rfl rfl ?_
  refine v_getR C dX8_array_47 3 (by decide) hcii (hI _ _ hcelli) g_fl_X8_75 hf3i ?_
  refine v_ldc2 C dX8_array_50 g_kl_X8_166 ?_
  refine v_lc_le (tgt := 67) C dX8_array_53 dX8_array_54 (by decide) (fun c_53 => absurd c_53 (fun h9 => by rw [sat_lt hz] at h9; have h8 := (pk_lLE (b := 400) hz (by omega)).mp h9; omega)) (fun c_53 => ?_)
  exact v_throw (text := "the size of the range is above 400") C hlT hlk htab dX8_array_57 dX8_array_60 dX8_array_61 dX8_array_63 dX8_array_66 xa5_G g_cl_X8_168 g_in_java_lang_IllegalArgumentException (by decide) xa1_G xa2_G xa3_G xa4_G (by decide) (Nat.le_of_ble_eq_true rfl) (Nat.le_of_ble_eq_true rfl) (Nat.le_of_ble_eq_true rfl) (Nat.le_of_ble_eq_true rfl) (Nat.le_of_ble_eq_true rfl) ⟨rfl, rfl⟩

set_option maxHeartbeats 4000000 in
set_option maxRecDepth 100000 in
theorem c_array_ok (l : Launch) (D : va_G) (B : Nat) (K : Nat → ClassId) (f : St) (q : Nat → Nat) (n na : Nat) (g : Nat → Option Nat) (fi : St) (sg : Nat → Sg) (E : Nat → List Ent) (ra : Nat → Nat) (kd : Nat → Int32) (i : Nat) (h0 : f (q 0) = some (.inr (6, [.ref (q 1), .ref (q 2), .ref (q 3), .ref (q 4), .ref (q 5), .ref (q 6), .int (nI n), .int (nI na)]))) (h4 : f (q 4) = some (.inl (K 3, 40, .inr (.inr (.inr (.inr (g))))))) (hn40 : n ≤ 40) (hT : RT K sg E ra kd fi n) (hI : Imm fi f) (hg : ∀ i, i < n → g i = some (ra i)) (hi : i < n) (gb : Nat → Option Nat) (cl : Nat → Nat → Int32) (h5 : f (q 5) = some (.inl (K 3, 6, .inr (.inr (.inr (.inr (gb))))))) (h6 : f (q 6) = some (.inl (K 4, 6, .inr (.inr (.inr (.inr (fun i => if i < 6 then some (q (9 + i)) else none))))))) (hrow : ∀ j, j < 6 → f (q (9 + j)) = some (.inl (K 0, 400, .inl (cl j)))) (hq : ∀ i j, i < 15 → j < 15 → q i = q j → i = j) (hna : na < 6) (hz : prodE sg (E i) ≤ 400) : Kc l D B K yX8_array cX8_array 3 ((some .int)) 50 0 0 [.ref (q 0), .int (nI i)] f (Qi_ D B (fun r f9 => r = nI na ∧ ∃ g9 : Nat → Int32, (∀ j, j < 400 → g9 j = 0) ∧ f9 = va_up (va_up (va_up f (q 5) (some (.inl (K 3, 6, .inr (.inr (.inr (.inr (va_up gb na (some (ra i)))))))))) (q (9 + na)) (some (.inl (K 0, 400, .inl g9)))) (q 0) (some (.inr (6, [.ref (q 1), .ref (q 2), .ref (q 3), .ref (q 4), .ref (q 5), .ref (q 6), .int (nI n), .int (nI (na + 1))]))))) := by
  refine v_met [(0, .ref (q 0)), (1, .int (nI i))] (by decide) (Nat.le_of_ble_eq_true rfl) rfl ?_
  intro p e s m args below meth c C hr hlk hin
  obtain ⟨cii, fsi, hcii, hcelli, hf0i, hf1i, hf2i, hf3i⟩ := RT_hdr (hT.2 i hi).1
  have hz9 : prodE sg (E i) < 9223372036854775808 := by omega
  have nne : ∀ a b, a < 15 → b < 15 → a ≠ b → q a ≠ q b := fun a b ha hb hne e9 => hne (hq a b ha hb e9)
  have h0a : (va_up f (q 5) (some (.inl (K 3, 6, .inr (.inr (.inr (.inr (va_up gb na (some (ra i)))))))))) (q 0) = some (.inr (6, [.ref (q 1), .ref (q 2), .ref (q 3), .ref (q 4), .ref (q 5), .ref (q 6), .int (nI n), .int (nI na)])) := by rw [va_up_ne _ _ (nne 0 5 (by decide) (by decide) (by decide))]; exact h0
  have h6a : (va_up f (q 5) (some (.inl (K 3, 6, .inr (.inr (.inr (.inr (va_up gb na (some (ra i)))))))))) (q 6) = some (.inl (K 4, 6, .inr (.inr (.inr (.inr (fun i => if i < 6 then some (q (9 + i)) else none)))))) := by rw [va_up_ne _ _ (nne 6 5 (by decide) (by decide) (by decide))]; exact h6
  have hra : (va_up f (q 5) (some (.inl (K 3, 6, .inr (.inr (.inr (.inr (va_up gb na (some (ra i)))))))))) (q (9 + na)) = some (.inl (K 0, 400, .inl (cl na))) := by rw [va_up_ne _ _ (nne (9 + na) 5 (by omega) (by decide) (by omega))]; exact hrow na hna
  have h0b : ∀ g9 : Nat → Int32, (va_up (va_up f (q 5) (some (.inl (K 3, 6, .inr (.inr (.inr (.inr (va_up gb na (some (ra i)))))))))) (q (9 + na)) (some (.inl (K 0, 400, .inl g9)))) (q 0) = some (.inr (6, [.ref (q 1), .ref (q 2), .ref (q 3), .ref (q 4), .ref (q 5), .ref (q 6), .int (nI n), .int (nI na)])) := fun g9 => by rw [va_up_ne _ _ (nne 0 (9 + na) (by decide) (by omega) (by omega))]; exact h0a
  refine v_aload_n C dX8_array_0 rfl rfl ?_
  refine v_iload_n C dX8_array_1 rfl rfl ?_
  refine v_cq (r_V C (c_rangeOf_ok l D B K _ q n na g i (ra i) h0 h4 hi hn40 (hg i hi)) dX8_array_2 h0 rfl g_ml_X8_71 g_im_yX8_rangeOf g_se_X8_yX8_rangeOf_yX8_rangeOf g_in_X8 g_cd_yX8_rangeOf (rn_le (by decide)) (by decide) rfl rfl hdn_yX8_rangeOf (Nat.le_of_ble_eq_true rfl) ⟨Nat.le_of_ble_eq_true rfl, Nat.le_of_ble_eq_true rfl⟩) (fun r_2 f_2 hp_2 => ?_)
  obtain ⟨rfl, hf9⟩ := hp_2
  have hf9 := hf9.symm
  subst hf9
  refine v_rq rfl ?_
  refine v_astore_n C dX8_array_5 rfl (by decide) rfl ?_
  refine v_aload_n C dX8_array_6 rfl rfl ?_
  refine v_ifnonnull (tgt := 13) C dX8_array_7 (by decide) ?_
  refine v_aload_n C dX8_array_13 rfl rfl ?_
  refine v_get C dX8_array_14 7 h0 rfl in_X8 (by decide) g_fl_X8_44 (fun _ h9 => h9) rfl ?_
  refine v_bipush (v := 6) C dX8_array_17 (by decide) ?_
  refine v_icmp_lt (tgt := 25) C dX8_array_19 (by decide) (fun c_19 => ?_) (fun c_19 => absurd (show nI na < 6 from (nI_ltI (b := 6) (by omega) (by omega)).mpr hna) c_19)
  refine v_aload_n C dX8_array_25 rfl rfl ?_
  refine v_getR C dX8_array_26 3 (by decide) hcii (hI _ _ hcelli) g_fl_X8_75 hf3i ?_
  refine v_ldc2 C dX8_array_29 g_kl_X8_79 ?_
  refine v_lc_ne (tgt := 46) C dX8_array_32 dX8_array_33 (by decide) (fun c_32 => ?_) (fun c_32 => absurd c_32 (fun h9 => by have h8 := (sat_m1 _).mp h9; omega))
  refine v_aload_n C dX8_array_46 rfl rfl ?_
  refine v_getR C dX8_array_47 3 (by decide) hcii (hI _ _ hcelli) g_fl_X8_75 hf3i ?_
  refine v_ldc2 C dX8_array_50 g_kl_X8_166 ?_
  refine v_lc_le (tgt := 67) C dX8_array_53 dX8_array_54 (by decide) (fun c_53 => ?_) (fun c_53 => absurd (by rw [sat_lt hz9]; exact (pk_lLE (b := 400) hz9 (by omega)).mpr hz) c_53)
  refine v_aload_n C dX8_array_67 rfl rfl ?_
  refine v_get C dX8_array_68 4 h0 rfl in_X8 (by decide) g_fl_X8_32 (fun _ h9 => h9) rfl ?_
  refine v_aload_n C dX8_array_71 rfl rfl ?_
  refine v_get C dX8_array_72 7 h0 rfl in_X8 (by decide) g_fl_X8_44 (fun _ h9 => h9) rfl ?_
  refine v_aload_n C dX8_array_75 rfl rfl ?_
  refine v_astR C dX8_array_76 h5 hcii (hI _ _ hcelli) (vp_in_nI (by omega) (by omega)) ?_
  rw [nI_clamp (show na < 2 ^ 31 by omega)]
  refine v_aload_n C dX8_array_77 rfl rfl ?_
  refine v_get C dX8_array_78 5 h0a rfl in_X8 (by decide) g_fl_X8_37 (fun _ h9 => h9) rfl ?_
  refine v_aload_n C dX8_array_81 rfl rfl ?_
  refine v_get C dX8_array_82 7 h0a rfl in_X8 (by decide) g_fl_X8_44 (fun _ h9 => h9) rfl ?_
  refine v_alda C dX8_array_85 h6a (vp_in_nI (by omega) (by omega)) ?_
  refine v_rq (show (fun i => if i < 6 then some (q (9 + i)) else none) (nI na).toNatClampNeg = some (q (9 + na)) by rw [nI_clamp (by omega)]; exact if_pos (by omega)) ?_
  refine v_iconst (v := 0) C dX8_array_86 (by decide) ?_
  refine v_cv (r_S C (c_fillI l D B K _ (q (9 + na)) 400 0 (cl na) (by decide) hra) dX8_array_87 g_ml_X8_173 g_st_yJ7_fill_53178 g_in_J7 g_cd_yJ7_fill_53178 (rn_le (by decide)) (by decide) rfl hdn_yJ7_fill_53178 (Nat.le_of_ble_eq_true rfl) ⟨Nat.le_of_ble_eq_true rfl, Nat.le_of_ble_eq_true rfl⟩) (fun f_87 hp_87 => ?_)
  obtain ⟨g9, hg9, rfl⟩ := hp_87
  refine v_aload_n C dX8_array_90 rfl rfl ?_
  refine v_dup C dX8_array_91 rfl ?_
  refine v_get C dX8_array_92 7 (h0b g9) rfl in_X8 (by decide) g_fl_X8_44 (fun _ h9 => h9) rfl ?_
  refine v_iconst (v := 1) C dX8_array_95 (by decide) ?_
  refine v_iadd C dX8_array_96 ?_
  refine v_ri (nI_1 na) ?_
  refine v_put C dX8_array_97 7 (h0b g9) rfl in_X8 tyX8 tyX8_ok nmX8 (by decide) g_fl_X8_44 (fun _ h9 => h9) rfl (tyX_at tyX8_ok (by decide)) rfl rfl (Nat.le_of_ble_eq_true rfl) ?_
  refine v_aload_n C dX8_array_100 rfl rfl ?_
  refine v_get C dX8_array_101 7 (va_up_self _ _ _) rfl in_X8 (by decide) g_fl_X8_44 (fun _ h9 => h9) rfl ?_
  refine v_iconst (v := 1) C dX8_array_104 (by decide) ?_
  refine v_isub C dX8_array_105 ?_
  refine v_ri (nI_pred na) ?_
  exact v_iret C hr hlk dX8_array_106 (Nat.le_of_ble_eq_true rfl) (Nat.le_of_ble_eq_true rfl) ⟨rfl, g9, hg9, rfl⟩

set_option maxHeartbeats 4000000 in
set_option maxRecDepth 100000 in
theorem c_put_unk (l : Launch) (D : va_G) (B : Nat) (K : Nat → ClassId) (f : St) (q : Nat → Nat) (n na : Nat) (x : Int32) (h0 : f (q 0) = some (.inr (6, [.ref (q 1), .ref (q 2), .ref (q 3), .ref (q 4), .ref (q 5), .ref (q 6), .int (nI n), .int (nI na)]))) (hna : na ≤ 6) (hx : x < 0 ∨ nI na ≤ x) (v : Int32) : Kc l D B K yX8_put cX8_put 6 ((some .int)) 50 0 0 [.ref (q 0), .int x, .int v] f (Qi_ D B (fun r f9 => r = -101 ∧ f9 = f)) := by
  refine v_met [(0, .ref (q 0)), (1, .int x), (2, .int v)] (by decide) (Nat.le_of_ble_eq_true rfl) rfl ?_
  intro p e s m args below meth c C hr hlk hin
  refine v_aload_n C dX8_put_0 rfl rfl ?_
  refine v_iload_n C dX8_put_1 rfl rfl ?_
  refine v_cq (r_V C (c_baseOf_bad l D B K _ q n na x h0 hx hna) dX8_put_2 h0 rfl g_ml_X8_178 g_im_yX8_baseOf g_se_X8_yX8_baseOf_yX8_baseOf g_in_X8 g_cd_yX8_baseOf (rn_le (by decide)) (by decide) rfl rfl hdn_yX8_baseOf (Nat.le_of_ble_eq_true rfl) ⟨Nat.le_of_ble_eq_true rfl, Nat.le_of_ble_eq_true rfl⟩) (fun r_2 f_2 hp_2 => ?_)
  obtain ⟨rfl, rfl⟩ := hp_2
  refine v_rn rfl ?_
  refine v_astore_nN C dX8_put_5 rfl (by decide) rfl ?_
  refine v_aload_nN C dX8_put_6 rfl rfl ?_
  refine v_ifnonnullN C dX8_put_7 ?_
  refine v_bipush (v := (-101)) C dX8_put_10 (by decide) ?_
  exact v_iret C hr hlk dX8_put_12 (Nat.le_of_ble_eq_true rfl) (Nat.le_of_ble_eq_true rfl) ⟨rfl, rfl⟩

set_option maxHeartbeats 4000000 in
set_option maxRecDepth 100000 in
theorem x_put (l : Launch) (D : va_G) (B : Nat) (K : Nat → ClassId) (f : St) (q : Nat → Nat) (n na : Nat) (gb : Nat → Option Nat) (fi : St) (sg : Nat → Sg) (E : Nat → List Ent) (ra : Nat → Nat) (kd : Nat → Int32) (a9 i : Nat) (v : Int32) (t x y z : Int32) (h : Nat → Int64)  (h0 : f (q 0) = some (.inr (6, [.ref (q 1), .ref (q 2), .ref (q 3), .ref (q 4), .ref (q 5), .ref (q 6), .int (nI n), .int (nI na)]))) (h5 : f (q 5) = some (.inl (K 3, 6, .inr (.inr (.inr (.inr (gb))))))) (hna : na ≤ 6) (hn40 : n ≤ 40) (hT : RT K sg E ra kd fi n) (hI : Imm fi f) (ha9 : a9 < na) (hi : i < n) (hgb : gb a9 = some (ra i)) (h1 : f (q 1) = some (.inr (2, [.ref (q 7)]))) (h7 : f (q 7) = some (.inl (K 1, 8, .inr (.inl h)))) (h3 : f (q 3) = some (.inr (3, [.int t, .int x, .int y, .int z]))) (m9 : Nat × Ent) (hm : missE sg h (E i) 0 = some m9) (hlT : l.stackTraces = false) : Kx l D B K yX8_put cX8_put 6 ((some .int)) 50 1 6 [.ref (q 0), .int (nI a9), .int v] f (Qi_ D B (fun _ _ => False)) (fun E9 f9 => E9 = "java/lang/IndexOutOfBoundsException" ∧ f9 = plF f (q 3) t 0 (some m9)) := by
  refine v_metX [(0, .ref (q 0)), (1, .int (nI a9)), (2, .int v)] (by decide) (Nat.le_of_ble_eq_true rfl) rfl ?_
  intro p e s m args below meth c C hr hlk htab
  refine v_aload_n C dX8_put_0 rfl rfl ?_
  refine v_iload_n C dX8_put_1 rfl rfl ?_
  refine v_cq (r_V C (c_baseOf_ok l D B K _ q n na gb a9 (ra i) h0 h5 ha9 hna hgb) dX8_put_2 h0 rfl g_ml_X8_178 g_im_yX8_baseOf g_se_X8_yX8_baseOf_yX8_baseOf g_in_X8 g_cd_yX8_baseOf (rn_le (by decide)) (by decide) rfl rfl hdn_yX8_baseOf (Nat.le_of_ble_eq_true rfl) ⟨Nat.le_of_ble_eq_true rfl, Nat.le_of_ble_eq_true rfl⟩) (fun r_2 f_2 hp_2 => ?_)
  obtain ⟨rfl, hf9⟩ := hp_2
  have hf9 := hf9.symm
  subst hf9
  refine v_rq rfl ?_
  refine v_astore_n C dX8_put_5 rfl (by decide) rfl ?_
  refine v_aload_n C dX8_put_6 rfl rfl ?_
  refine v_ifnonnull (tgt := 13) C dX8_put_7 (by decide) ?_
  refine v_aload_n C dX8_put_13 rfl rfl ?_
  refine v_aload_n C dX8_put_14 rfl rfl ?_
  refine v_ci (r_V C (c_cellOfHand_no l D B K _ q n na fi sg E ra kd i t x y z h h0 hn40 hT hI h1 h7 h3 hi m9 hm) dX8_put_15 h0 rfl g_ml_X8_181 g_im_yX8_cellOfHand g_se_X8_yX8_cellOfHand_yX8_cellOfHand g_in_X8 g_cd_yX8_cellOfHand (rn_le (by decide)) (by decide) rfl rfl hdn_yX8_cellOfHand (Nat.le_of_ble_eq_true rfl) ⟨Nat.le_of_ble_eq_true rfl, Nat.le_of_ble_eq_true rfl⟩) (fun r_15 f_15 hp_15 => ?_)
  obtain ⟨rfl, hf9⟩ := hp_15
  refine v_istore C dX8_put_18 (by decide) rfl ?_
  refine v_iload C dX8_put_20 rfl ?_
  refine v_bipush (v := (-2)) C dX8_put_22 (by decide) ?_
  refine v_icmp_ne (tgt := 37) C dX8_put_24 (by decide) (fun c_24 => absurd rfl c_24) (fun c_24 => ?_)
  exact v_throw (text := "the hand holds no element of the array's range") C hlT hlk htab dX8_put_27 dX8_put_30 dX8_put_31 dX8_put_33 dX8_put_36 xa5_I g_cl_X8_124 g_in_java_lang_IndexOutOfBoundsException (by decide) xa1_I xa2_I xa3_I xa4_I (by decide) (Nat.le_of_ble_eq_true rfl) (Nat.le_of_ble_eq_true rfl) (Nat.le_of_ble_eq_true rfl) (Nat.le_of_ble_eq_true rfl) (Nat.le_of_ble_eq_true rfl) ⟨rfl, hf9⟩

set_option maxHeartbeats 4000000 in
set_option maxRecDepth 100000 in
theorem c_put_ok (l : Launch) (D : va_G) (B : Nat) (K : Nat → ClassId) (f : St) (q : Nat → Nat) (n na : Nat) (gb : Nat → Option Nat) (fi : St) (sg : Nat → Sg) (E : Nat → List Ent) (ra : Nat → Nat) (kd : Nat → Int32) (a9 i : Nat) (v : Int32) (t x y z : Int32) (h : Nat → Int64)  (h0 : f (q 0) = some (.inr (6, [.ref (q 1), .ref (q 2), .ref (q 3), .ref (q 4), .ref (q 5), .ref (q 6), .int (nI n), .int (nI na)]))) (h5 : f (q 5) = some (.inl (K 3, 6, .inr (.inr (.inr (.inr (gb))))))) (hna : na ≤ 6) (hn40 : n ≤ 40) (hT : RT K sg E ra kd fi n) (hI : Imm fi f) (ha9 : a9 < na) (hi : i < n) (hgb : gb a9 = some (ra i)) (h1 : f (q 1) = some (.inr (2, [.ref (q 7)]))) (h7 : f (q 7) = some (.inl (K 1, 8, .inr (.inl h)))) (h3 : f (q 3) = some (.inr (3, [.int t, .int x, .int y, .int z]))) (cl : Nat → Nat → Int32) (h6 : f (q 6) = some (.inl (K 4, 6, .inr (.inr (.inr (.inr (fun i => if i < 6 then some (q (9 + i)) else none))))))) (hrow : ∀ j, j < 6 → f (q (9 + j)) = some (.inl (K 0, 400, .inl (cl j)))) (hz : prodE sg (E i) ≤ 400) (hm : missE sg h (E i) 0 = none) : Kc l D B K yX8_put cX8_put 6 ((some .int)) 50 0 0 [.ref (q 0), .int (nI a9), .int v] f (Qi_ D B (fun r f9 => r = cl a9 (idxE sg h (E i) 0 0) ∧ f9 = va_up f (q (9 + a9)) (some (.inl (K 0, 400, .inl (upd (cl a9) (idxE sg h (E i) 0 0) v)))))) := by
  refine v_met [(0, .ref (q 0)), (1, .int (nI a9)), (2, .int v)] (by decide) (Nat.le_of_ble_eq_true rfl) rfl ?_
  intro p e s m args below meth c C hr hlk hin
  have hix := idx_lt hT.1 hm
  refine v_aload_n C dX8_put_0 rfl rfl ?_
  refine v_iload_n C dX8_put_1 rfl rfl ?_
  refine v_cq (r_V C (c_baseOf_ok l D B K _ q n na gb a9 (ra i) h0 h5 ha9 hna hgb) dX8_put_2 h0 rfl g_ml_X8_178 g_im_yX8_baseOf g_se_X8_yX8_baseOf_yX8_baseOf g_in_X8 g_cd_yX8_baseOf (rn_le (by decide)) (by decide) rfl rfl hdn_yX8_baseOf (Nat.le_of_ble_eq_true rfl) ⟨Nat.le_of_ble_eq_true rfl, Nat.le_of_ble_eq_true rfl⟩) (fun r_2 f_2 hp_2 => ?_)
  obtain ⟨rfl, hf9⟩ := hp_2
  have hf9 := hf9.symm
  subst hf9
  refine v_rq rfl ?_
  refine v_astore_n C dX8_put_5 rfl (by decide) rfl ?_
  refine v_aload_n C dX8_put_6 rfl rfl ?_
  refine v_ifnonnull (tgt := 13) C dX8_put_7 (by decide) ?_
  refine v_aload_n C dX8_put_13 rfl rfl ?_
  refine v_aload_n C dX8_put_14 rfl rfl ?_
  refine v_ci (r_V C (c_cellOfHand_yes l D B K _ q n na fi sg E ra kd i t x y z h h0 hn40 hT hI h1 h7 h3 hi hz hm) dX8_put_15 h0 rfl g_ml_X8_181 g_im_yX8_cellOfHand g_se_X8_yX8_cellOfHand_yX8_cellOfHand g_in_X8 g_cd_yX8_cellOfHand (rn_le (by decide)) (by decide) rfl rfl hdn_yX8_cellOfHand (Nat.le_of_ble_eq_true rfl) ⟨Nat.le_of_ble_eq_true rfl, Nat.le_of_ble_eq_true rfl⟩) (fun r_15 f_15 hp_15 => ?_)
  obtain ⟨rfl, hf9⟩ := hp_15
  have hf9 := hf9.symm
  subst hf9
  refine v_istore C dX8_put_18 (by decide) rfl ?_
  refine v_iload C dX8_put_20 rfl ?_
  refine v_bipush (v := (-2)) C dX8_put_22 (by decide) ?_
  refine v_icmp_ne (tgt := 37) C dX8_put_24 (by decide) (fun c_24 => ?_) (fun c_24 => absurd c_24 (fun h9 => by have h8 := congrArg Int32.toInt h9; rw [nI_toInt (by omega)] at h8; have e0 : (-2 : Int32).toInt = -2 := rfl; omega))
  refine v_aload_n C dX8_put_37 rfl rfl ?_
  refine v_get C dX8_put_38 5 h0 rfl in_X8 (by decide) g_fl_X8_37 (fun _ h9 => h9) rfl ?_
  refine v_iload_n C dX8_put_41 rfl rfl ?_
  refine v_alda C dX8_put_42 h6 (vp_in_nI (by omega) (by omega)) ?_
  refine v_rq (show (fun i => if i < 6 then some (q (9 + i)) else none) (nI a9).toNatClampNeg = some (q (9 + a9)) by rw [nI_clamp (by omega)]; exact if_pos (by omega)) ?_
  refine v_iload C dX8_put_43 rfl ?_
  refine v_iald C dX8_put_45 (hrow a9 (by omega)) (vp_in_nI (by omega) (by omega)) ?_
  rw [nI_clamp (show (idxE sg h (E i) 0 0) < 2 ^ 31 by omega)]
  refine v_istore C dX8_put_46 (by decide) rfl ?_
  refine v_aload_n C dX8_put_48 rfl rfl ?_
  refine v_get C dX8_put_49 5 h0 rfl in_X8 (by decide) g_fl_X8_37 (fun _ h9 => h9) rfl ?_
  refine v_iload_n C dX8_put_52 rfl rfl ?_
  refine v_alda C dX8_put_53 h6 (vp_in_nI (by omega) (by omega)) ?_
  refine v_rq (show (fun i => if i < 6 then some (q (9 + i)) else none) (nI a9).toNatClampNeg = some (q (9 + a9)) by rw [nI_clamp (by omega)]; exact if_pos (by omega)) ?_
  refine v_iload C dX8_put_54 rfl ?_
  refine v_iload_n C dX8_put_56 rfl rfl ?_
  refine v_iast C dX8_put_57 (hrow a9 (by omega)) (vp_in_nI (by omega) (by omega)) ?_
  rw [nI_clamp (show (idxE sg h (E i) 0 0) < 2 ^ 31 by omega)]
  refine v_iload C dX8_put_58 rfl ?_
  exact v_iret C hr hlk dX8_put_60 (Nat.le_of_ble_eq_true rfl) (Nat.le_of_ble_eq_true rfl) ⟨rfl, rfl⟩

set_option maxHeartbeats 4000000 in
set_option maxRecDepth 100000 in
theorem c_at_unk (l : Launch) (D : va_G) (B : Nat) (K : Nat → ClassId) (f : St) (q : Nat → Nat) (n na : Nat) (x : Int32) (h0 : f (q 0) = some (.inr (6, [.ref (q 1), .ref (q 2), .ref (q 3), .ref (q 4), .ref (q 5), .ref (q 6), .int (nI n), .int (nI na)]))) (hna : na ≤ 6) (hx : x < 0 ∨ nI na ≤ x) : Kc l D B K yX8_at cX8_at 4 ((some .int)) 50 0 0 [.ref (q 0), .int x] f (Qi_ D B (fun r f9 => r = -101 ∧ f9 = f)) := by
  refine v_met [(0, .ref (q 0)), (1, .int x)] (by decide) (Nat.le_of_ble_eq_true rfl) rfl ?_
  intro p e s m args below meth c C hr hlk hin
  refine v_aload_n C dX8_at_0 rfl rfl ?_
  refine v_iload_n C dX8_at_1 rfl rfl ?_
  refine v_cq (r_V C (c_baseOf_bad l D B K _ q n na x h0 hx hna) dX8_at_2 h0 rfl g_ml_X8_178 g_im_yX8_baseOf g_se_X8_yX8_baseOf_yX8_baseOf g_in_X8 g_cd_yX8_baseOf (rn_le (by decide)) (by decide) rfl rfl hdn_yX8_baseOf (Nat.le_of_ble_eq_true rfl) ⟨Nat.le_of_ble_eq_true rfl, Nat.le_of_ble_eq_true rfl⟩) (fun r_2 f_2 hp_2 => ?_)
  obtain ⟨rfl, rfl⟩ := hp_2
  refine v_rn rfl ?_
  refine v_astore_nN C dX8_at_5 rfl (by decide) rfl ?_
  refine v_aload_nN C dX8_at_6 rfl rfl ?_
  refine v_ifnonnullN C dX8_at_7 ?_
  refine v_bipush (v := (-101)) C dX8_at_10 (by decide) ?_
  exact v_iret C hr hlk dX8_at_12 (Nat.le_of_ble_eq_true rfl) (Nat.le_of_ble_eq_true rfl) ⟨rfl, rfl⟩

set_option maxHeartbeats 4000000 in
set_option maxRecDepth 100000 in
theorem x_at (l : Launch) (D : va_G) (B : Nat) (K : Nat → ClassId) (f : St) (q : Nat → Nat) (n na : Nat) (gb : Nat → Option Nat) (fi : St) (sg : Nat → Sg) (E : Nat → List Ent) (ra : Nat → Nat) (kd : Nat → Int32) (a9 i : Nat) (t x y z : Int32) (h : Nat → Int64)  (h0 : f (q 0) = some (.inr (6, [.ref (q 1), .ref (q 2), .ref (q 3), .ref (q 4), .ref (q 5), .ref (q 6), .int (nI n), .int (nI na)]))) (h5 : f (q 5) = some (.inl (K 3, 6, .inr (.inr (.inr (.inr (gb))))))) (hna : na ≤ 6) (hn40 : n ≤ 40) (hT : RT K sg E ra kd fi n) (hI : Imm fi f) (ha9 : a9 < na) (hi : i < n) (hgb : gb a9 = some (ra i)) (h1 : f (q 1) = some (.inr (2, [.ref (q 7)]))) (h7 : f (q 7) = some (.inl (K 1, 8, .inr (.inl h)))) (h3 : f (q 3) = some (.inr (3, [.int t, .int x, .int y, .int z]))) (m9 : Nat × Ent) (hm : missE sg h (E i) 0 = some m9) (hlT : l.stackTraces = false) : Kx l D B K yX8_at cX8_at 4 ((some .int)) 50 1 6 [.ref (q 0), .int (nI a9)] f (Qi_ D B (fun _ _ => False)) (fun E9 f9 => E9 = "java/lang/IndexOutOfBoundsException" ∧ f9 = plF f (q 3) t 0 (some m9)) := by
  refine v_metX [(0, .ref (q 0)), (1, .int (nI a9))] (by decide) (Nat.le_of_ble_eq_true rfl) rfl ?_
  intro p e s m args below meth c C hr hlk htab
  refine v_aload_n C dX8_at_0 rfl rfl ?_
  refine v_iload_n C dX8_at_1 rfl rfl ?_
  refine v_cq (r_V C (c_baseOf_ok l D B K _ q n na gb a9 (ra i) h0 h5 ha9 hna hgb) dX8_at_2 h0 rfl g_ml_X8_178 g_im_yX8_baseOf g_se_X8_yX8_baseOf_yX8_baseOf g_in_X8 g_cd_yX8_baseOf (rn_le (by decide)) (by decide) rfl rfl hdn_yX8_baseOf (Nat.le_of_ble_eq_true rfl) ⟨Nat.le_of_ble_eq_true rfl, Nat.le_of_ble_eq_true rfl⟩) (fun r_2 f_2 hp_2 => ?_)
  obtain ⟨rfl, hf9⟩ := hp_2
  have hf9 := hf9.symm
  subst hf9
  refine v_rq rfl ?_
  refine v_astore_n C dX8_at_5 rfl (by decide) rfl ?_
  refine v_aload_n C dX8_at_6 rfl rfl ?_
  refine v_ifnonnull (tgt := 13) C dX8_at_7 (by decide) ?_
  refine v_aload_n C dX8_at_13 rfl rfl ?_
  refine v_aload_n C dX8_at_14 rfl rfl ?_
  refine v_ci (r_V C (c_cellOfHand_no l D B K _ q n na fi sg E ra kd i t x y z h h0 hn40 hT hI h1 h7 h3 hi m9 hm) dX8_at_15 h0 rfl g_ml_X8_181 g_im_yX8_cellOfHand g_se_X8_yX8_cellOfHand_yX8_cellOfHand g_in_X8 g_cd_yX8_cellOfHand (rn_le (by decide)) (by decide) rfl rfl hdn_yX8_cellOfHand (Nat.le_of_ble_eq_true rfl) ⟨Nat.le_of_ble_eq_true rfl, Nat.le_of_ble_eq_true rfl⟩) (fun r_15 f_15 hp_15 => ?_)
  obtain ⟨rfl, hf9⟩ := hp_15
  refine v_istore_n C dX8_at_18 rfl (by decide) rfl ?_
  refine v_iload_n C dX8_at_19 rfl rfl ?_
  refine v_bipush (v := (-2)) C dX8_at_20 (by decide) ?_
  refine v_icmp_ne (tgt := 35) C dX8_at_22 (by decide) (fun c_22 => absurd rfl c_22) (fun c_22 => ?_)
  exact v_throw (text := "the hand holds no element of the array's range") C hlT hlk htab dX8_at_25 dX8_at_28 dX8_at_29 dX8_at_31 dX8_at_34 xa5_I g_cl_X8_124 g_in_java_lang_IndexOutOfBoundsException (by decide) xa1_I xa2_I xa3_I xa4_I (by decide) (Nat.le_of_ble_eq_true rfl) (Nat.le_of_ble_eq_true rfl) (Nat.le_of_ble_eq_true rfl) (Nat.le_of_ble_eq_true rfl) (Nat.le_of_ble_eq_true rfl) ⟨rfl, hf9⟩

set_option maxHeartbeats 4000000 in
set_option maxRecDepth 100000 in
theorem c_at_ok (l : Launch) (D : va_G) (B : Nat) (K : Nat → ClassId) (f : St) (q : Nat → Nat) (n na : Nat) (gb : Nat → Option Nat) (fi : St) (sg : Nat → Sg) (E : Nat → List Ent) (ra : Nat → Nat) (kd : Nat → Int32) (a9 i : Nat) (t x y z : Int32) (h : Nat → Int64)  (h0 : f (q 0) = some (.inr (6, [.ref (q 1), .ref (q 2), .ref (q 3), .ref (q 4), .ref (q 5), .ref (q 6), .int (nI n), .int (nI na)]))) (h5 : f (q 5) = some (.inl (K 3, 6, .inr (.inr (.inr (.inr (gb))))))) (hna : na ≤ 6) (hn40 : n ≤ 40) (hT : RT K sg E ra kd fi n) (hI : Imm fi f) (ha9 : a9 < na) (hi : i < n) (hgb : gb a9 = some (ra i)) (h1 : f (q 1) = some (.inr (2, [.ref (q 7)]))) (h7 : f (q 7) = some (.inl (K 1, 8, .inr (.inl h)))) (h3 : f (q 3) = some (.inr (3, [.int t, .int x, .int y, .int z]))) (cl : Nat → Nat → Int32) (h6 : f (q 6) = some (.inl (K 4, 6, .inr (.inr (.inr (.inr (fun i => if i < 6 then some (q (9 + i)) else none))))))) (hrow : ∀ j, j < 6 → f (q (9 + j)) = some (.inl (K 0, 400, .inl (cl j)))) (hz : prodE sg (E i) ≤ 400) (hm : missE sg h (E i) 0 = none) : Kc l D B K yX8_at cX8_at 4 ((some .int)) 50 0 0 [.ref (q 0), .int (nI a9)] f (Qi_ D B (fun r f9 => r = cl a9 (idxE sg h (E i) 0 0) ∧ f9 = f)) := by
  refine v_met [(0, .ref (q 0)), (1, .int (nI a9))] (by decide) (Nat.le_of_ble_eq_true rfl) rfl ?_
  intro p e s m args below meth c C hr hlk hin
  have hix := idx_lt hT.1 hm
  refine v_aload_n C dX8_at_0 rfl rfl ?_
  refine v_iload_n C dX8_at_1 rfl rfl ?_
  refine v_cq (r_V C (c_baseOf_ok l D B K _ q n na gb a9 (ra i) h0 h5 ha9 hna hgb) dX8_at_2 h0 rfl g_ml_X8_178 g_im_yX8_baseOf g_se_X8_yX8_baseOf_yX8_baseOf g_in_X8 g_cd_yX8_baseOf (rn_le (by decide)) (by decide) rfl rfl hdn_yX8_baseOf (Nat.le_of_ble_eq_true rfl) ⟨Nat.le_of_ble_eq_true rfl, Nat.le_of_ble_eq_true rfl⟩) (fun r_2 f_2 hp_2 => ?_)
  obtain ⟨rfl, hf9⟩ := hp_2
  have hf9 := hf9.symm
  subst hf9
  refine v_rq rfl ?_
  refine v_astore_n C dX8_at_5 rfl (by decide) rfl ?_
  refine v_aload_n C dX8_at_6 rfl rfl ?_
  refine v_ifnonnull (tgt := 13) C dX8_at_7 (by decide) ?_
  refine v_aload_n C dX8_at_13 rfl rfl ?_
  refine v_aload_n C dX8_at_14 rfl rfl ?_
  refine v_ci (r_V C (c_cellOfHand_yes l D B K _ q n na fi sg E ra kd i t x y z h h0 hn40 hT hI h1 h7 h3 hi hz hm) dX8_at_15 h0 rfl g_ml_X8_181 g_im_yX8_cellOfHand g_se_X8_yX8_cellOfHand_yX8_cellOfHand g_in_X8 g_cd_yX8_cellOfHand (rn_le (by decide)) (by decide) rfl rfl hdn_yX8_cellOfHand (Nat.le_of_ble_eq_true rfl) ⟨Nat.le_of_ble_eq_true rfl, Nat.le_of_ble_eq_true rfl⟩) (fun r_15 f_15 hp_15 => ?_)
  obtain ⟨rfl, hf9⟩ := hp_15
  have hf9 := hf9.symm
  subst hf9
  refine v_istore_n C dX8_at_18 rfl (by decide) rfl ?_
  refine v_iload_n C dX8_at_19 rfl rfl ?_
  refine v_bipush (v := (-2)) C dX8_at_20 (by decide) ?_
  refine v_icmp_ne (tgt := 35) C dX8_at_22 (by decide) (fun c_22 => ?_) (fun c_22 => absurd c_22 (fun h9 => by have h8 := congrArg Int32.toInt h9; rw [nI_toInt (by omega)] at h8; have e0 : (-2 : Int32).toInt = -2 := rfl; omega))
  refine v_aload_n C dX8_at_35 rfl rfl ?_
  refine v_get C dX8_at_36 5 h0 rfl in_X8 (by decide) g_fl_X8_37 (fun _ h9 => h9) rfl ?_
  refine v_iload_n C dX8_at_39 rfl rfl ?_
  refine v_alda C dX8_at_40 h6 (vp_in_nI (by omega) (by omega)) ?_
  refine v_rq (show (fun i => if i < 6 then some (q (9 + i)) else none) (nI a9).toNatClampNeg = some (q (9 + a9)) by rw [nI_clamp (by omega)]; exact if_pos (by omega)) ?_
  refine v_iload_n C dX8_at_41 rfl rfl ?_
  refine v_iald C dX8_at_42 (hrow a9 (by omega)) (vp_in_nI (by omega) (by omega)) ?_
  rw [nI_clamp (show (idxE sg h (E i) 0 0) < 2 ^ 31 by omega)]
  exact v_iret C hr hlk dX8_at_43 (Nat.le_of_ble_eq_true rfl) (Nat.le_of_ble_eq_true rfl) ⟨rfl, rfl⟩

