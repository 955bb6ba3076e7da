/-! place: singles, back, beside; all of them by induction over their numbers -/
set_option maxHeartbeats 4000000 in
set_option maxRecDepth 100000 in
theorem c_Single_place_X6 (l : Launch) (D : va_G) (B : Nat) (K : Nat → ClassId) (f : St) (sg : Nat → Sg) (E : Nat → List Ent) (ra : Nat → Nat) (kd : Nat → Int32) (fi : St) (i hh ha mm a : Nat) (h : Nat → Int64) (t x y z d : Int32) (fst lst : Int64) (sp : Int32) (hrow : rowOK (sg i) fst lst sp) (hok : ∀ o, okS (sg o)) (hI : Imm fi f) (hH : f hh = some (.inr (2, [.ref ha]))) (hA : f ha = some (.inl (K 1, 8, .inr (.inl h)))) (hM : f mm = some (.inr (3, [.int t, .int x, .int y, .int z]))) (hw9 : a + (E i).length ≤ 8) (hq : fi (ra i) = some (.inr (5, [.int (nI i), .int (kd i), .int 1, .long (sat (cntS (sg i))), .long fst, .long lst, .int sp]))) (hE : E i = [(i, false, 0)]) : Kc l D B K yX7_place cX7_place 7 ((some .long)) (i + 2) 0 0 [.ref (ra i), .ref hh, .int (nI a), .int d, .ref mm] f (Ql_ D B (fun r f9 => r = plR sg h (E i) a ∧ f9 = plF f mm t d (missE sg h (E i) a))) := by
  refine v_met [(0, .ref (ra i)), (1, .ref hh), (2, .int (nI a)), (3, .int d), (4, .ref mm)] (by decide) (Nat.le_of_ble_eq_true rfl) rfl ?_
  intro p e s m args below meth c C hr hlk hin
  have h0 := hI _ _ hq
  have ha8 : a < 8 := by rw [hE] at hw9; exact Nat.lt_of_succ_le hw9
  refine v_aload_n C dX7_place_0 rfl rfl ?_
  refine v_aload_n C dX7_place_1 rfl rfl ?_
  refine v_iload_n C dX7_place_2 rfl rfl ?_
  refine v_cl (r_V C (c_look l D B K _ hh h (nI a) ha hH hA) dX7_place_3 hH rfl g_ml_X7_9 g_im_yX2_look g_se_X2_yX2_look_yX2_look g_in_X2 g_cd_yX2_look (rn_le (by omega)) (by decide) rfl rfl hdn_yX2_look (Nat.le_of_ble_eq_true rfl) ⟨Nat.le_of_ble_eq_true rfl, Nat.le_of_ble_eq_true rfl⟩) (fun r_3 f_3 hp_3 => ?_)
  obtain ⟨rfl, rfl⟩ := hp_3
  refine v_rl (look_eq ha8) ?_
  refine v_cl (r_A (x := xS_placeOf) (owner := RX7) C (c_Row_placeOf l D B K _ (ra i) _ _ _ _ _ _ _ h0) dX7_place_6 h0 rfl g_ml_X7_15 g_sm_X7_X7_placeOf g_se_X6_X7_placeOf_467d_yX6_placeOf g_im_yX6_placeOf g_in_X6 g_cd_yX6_placeOf (by decide +kernel) (rn_le (by omega)) (by decide) rfl hdn_xS_placeOf (Nat.le_of_ble_eq_true rfl) ⟨Nat.le_of_ble_eq_true rfl, Nat.le_of_ble_eq_true rfl⟩) (fun r_6 f_6 hp_6 => ?_)
  obtain ⟨rfl, rfl⟩ := hp_6
  refine v_rl (rp_eq (hok i) hrow (h a)) ?_
  rw [hE]
  cases hp : posS (sg i) (h a) with
  | none =>
    refine v_lstore C dX7_place_9 (by decide) rfl ?_
    refine v_lload C dX7_place_11 rfl ?_
    refine v_ldc2 C dX7_place_13 g_kl_X7_21 ?_
    refine v_lc_ne (tgt := 31) C dX7_place_16 dX7_place_17 (by decide) (fun c_16 => absurd (show pmS none = -2 from rfl) c_16) (fun c_16 => ?_)
    refine v_aload C dX7_place_20 rfl ?_
    refine v_aload_n C dX7_place_22 rfl rfl ?_
    refine v_get C dX7_place_23 0 h0 rfl in_X6 (by decide) g_fl_X7_23 (fun x9 h9 => u_same (C.2.2.2.2.1 _ g_sf_X7_number) x9 h9) rfl ?_
    refine v_iload_n C dX7_place_26 rfl rfl ?_
    refine v_iload_n C dX7_place_27 rfl rfl ?_
    refine v_cv (r_V C (c_note l D B K _ mm t x y z _ _ _ hM) dX7_place_28 hM rfl g_ml_X7_27 g_im_yX3_note g_se_X3_yX3_note_yX3_note g_in_X3 g_cd_yX3_note (rn_le (by omega)) (by decide) rfl rfl hdn_yX3_note (Nat.le_of_ble_eq_true rfl) ⟨Nat.le_of_ble_eq_true rfl, Nat.le_of_ble_eq_true rfl⟩) (fun f_28 hp_28 => ?_)
    subst hp_28
    refine v_lload C dX7_place_31 rfl ?_
    exact v_lret C hr hlk dX7_place_33 (Nat.le_refl _) (Nat.le_refl _) ⟨by simp [plR, missE, hp, pmS], by simp [plF, missE, hp, nI_0]⟩
  | some k =>
    refine v_lstore C dX7_place_9 (by decide) rfl ?_
    refine v_lload C dX7_place_11 rfl ?_
    refine v_ldc2 C dX7_place_13 g_kl_X7_21 ?_
    refine v_lc_ne (tgt := 31) C dX7_place_16 dX7_place_17 (by decide) (fun c_16 => ?_) (fun c_16 => absurd c_16 (sat_n2 k))
    refine v_lload C dX7_place_31 rfl ?_
    exact v_lret C hr hlk dX7_place_33 (Nat.le_refl _) (Nat.le_refl _) ⟨by simp [plR, missE, hp, pmS, idxE, digE], by simp [plF, missE, hp]⟩

set_option maxHeartbeats 4000000 in
set_option maxRecDepth 100000 in
theorem c_Single_place_X4 (l : Launch) (D : va_G) (B : Nat) (K : Nat → ClassId) (f : St) (sg : Nat → Sg) (E : Nat → List Ent) (ra : Nat → Nat) (kd : Nat → Int32) (fi : St) (i hh ha mm a : Nat) (h : Nat → Int64) (t x y z d : Int32) (ar fs : Int32) (hrow : namesOK (sg i) ar fs) (hok : ∀ o, okS (sg o)) (hI : Imm fi f) (hH : f hh = some (.inr (2, [.ref ha]))) (hA : f ha = some (.inl (K 1, 8, .inr (.inl h)))) (hM : f mm = some (.inr (3, [.int t, .int x, .int y, .int z]))) (hw9 : a + (E i).length ≤ 8) (hq : fi (ra i) = some (.inr (4, [.int (nI i), .int (kd i), .int 1, .long (sat (cntS (sg i))), .int ar, .int fs]))) (hE : E i = [(i, false, 0)]) : Kc l D B K yX7_place cX7_place 7 ((some .long)) (i + 2) 0 0 [.ref (ra i), .ref hh, .int (nI a), .int d, .ref mm] f (Ql_ D B (fun r f9 => r = plR sg h (E i) a ∧ f9 = plF f mm t d (missE sg h (E i) a))) := by
  refine v_met [(0, .ref (ra i)), (1, .ref hh), (2, .int (nI a)), (3, .int d), (4, .ref mm)] (by decide) (Nat.le_of_ble_eq_true rfl) rfl ?_
  intro p e s m args below meth c C hr hlk hin
  have h0 := hI _ _ hq
  have ha8 : a < 8 := by rw [hE] at hw9; exact Nat.lt_of_succ_le hw9
  refine v_aload_n C dX7_place_0 rfl rfl ?_
  refine v_aload_n C dX7_place_1 rfl rfl ?_
  refine v_iload_n C dX7_place_2 rfl rfl ?_
  refine v_cl (r_V C (c_look l D B K _ hh h (nI a) ha hH hA) dX7_place_3 hH rfl g_ml_X7_9 g_im_yX2_look g_se_X2_yX2_look_yX2_look g_in_X2 g_cd_yX2_look (rn_le (by omega)) (by decide) rfl rfl hdn_yX2_look (Nat.le_of_ble_eq_true rfl) ⟨Nat.le_of_ble_eq_true rfl, Nat.le_of_ble_eq_true rfl⟩) (fun r_3 f_3 hp_3 => ?_)
  obtain ⟨rfl, rfl⟩ := hp_3
  refine v_rl (look_eq ha8) ?_
  refine v_cl (r_A (x := xS_placeOf) (owner := RX7) C (c_Names_placeOf l D B K _ (ra i) _ _ _ _ _ _ h0) dX7_place_6 h0 rfl g_ml_X7_15 g_sm_X7_X7_placeOf g_se_X4_X7_placeOf_467d_yX4_placeOf g_im_yX4_placeOf g_in_X4 g_cd_yX4_placeOf (by decide +kernel) (rn_le (by omega)) (by decide) rfl hdn_xS_placeOf (Nat.le_of_ble_eq_true rfl) ⟨Nat.le_of_ble_eq_true rfl, Nat.le_of_ble_eq_true rfl⟩) (fun r_6 f_6 hp_6 => ?_)
  obtain ⟨rfl, rfl⟩ := hp_6
  refine v_rl (np_eq (hok i) hrow (h a)) ?_
  rw [hE]
  cases hp : posS (sg i) (h a) with
  | none =>
    refine v_lstore C dX7_place_9 (by decide) rfl ?_
    refine v_lload C dX7_place_11 rfl ?_
    refine v_ldc2 C dX7_place_13 g_kl_X7_21 ?_
    refine v_lc_ne (tgt := 31) C dX7_place_16 dX7_place_17 (by decide) (fun c_16 => absurd (show pmS none = -2 from rfl) c_16) (fun c_16 => ?_)
    refine v_aload C dX7_place_20 rfl ?_
    refine v_aload_n C dX7_place_22 rfl rfl ?_
    refine v_get C dX7_place_23 0 h0 rfl in_X4 (by decide) g_fl_X7_23 (fun x9 h9 => u_same (C.2.2.2.2.1 _ g_sf_X7_number) x9 h9) rfl ?_
    refine v_iload_n C dX7_place_26 rfl rfl ?_
    refine v_iload_n C dX7_place_27 rfl rfl ?_
    refine v_cv (r_V C (c_note l D B K _ mm t x y z _ _ _ hM) dX7_place_28 hM rfl g_ml_X7_27 g_im_yX3_note g_se_X3_yX3_note_yX3_note g_in_X3 g_cd_yX3_note (rn_le (by omega)) (by decide) rfl rfl hdn_yX3_note (Nat.le_of_ble_eq_true rfl) ⟨Nat.le_of_ble_eq_true rfl, Nat.le_of_ble_eq_true rfl⟩) (fun f_28 hp_28 => ?_)
    subst hp_28
    refine v_lload C dX7_place_31 rfl ?_
    exact v_lret C hr hlk dX7_place_33 (Nat.le_refl _) (Nat.le_refl _) ⟨by simp [plR, missE, hp, pmS], by simp [plF, missE, hp, nI_0]⟩
  | some k =>
    refine v_lstore C dX7_place_9 (by decide) rfl ?_
    refine v_lload C dX7_place_11 rfl ?_
    refine v_ldc2 C dX7_place_13 g_kl_X7_21 ?_
    refine v_lc_ne (tgt := 31) C dX7_place_16 dX7_place_17 (by decide) (fun c_16 => ?_) (fun c_16 => absurd c_16 (sat_n2 k))
    refine v_lload C dX7_place_31 rfl ?_
    exact v_lret C hr hlk dX7_place_33 (Nat.le_refl _) (Nat.le_refl _) ⟨by simp [plR, missE, hp, pmS, idxE, digE], by simp [plF, missE, hp]⟩

theorem back_eq {N i k : Nat} (hN : N < 9223372036854775808) (h : k + i + 1 = N) : sat N - 1 - sat i = sat k := by
  rw [sat_lt hN, sat_lt (by omega), sat_lt (by omega)]
  rw [show (1 : Int64) = lN 1 from rfl, lN_sub (by omega), lN_sub (by omega)]
  congr 1
  omega
set_option maxHeartbeats 4000000 in
set_option maxRecDepth 100000 in
theorem c_Back_place (l : Launch) (D : va_G) (B : Nat) (K : Nat → ClassId) (f : St) (sg : Nat → Sg) (E : Nat → List Ent) (ra : Nat → Nat) (kd : Nat → Int32) (fi : St) (i hh ha mm a : Nat) (h : Nat → Int64) (t x y z d : Int32) (j : Nat) (hok : ∀ o, okS (sg o)) (hI : Imm fi f) (hH : f hh = some (.inr (2, [.ref ha]))) (hA : f ha = some (.inl (K 1, 8, .inr (.inl h)))) (hM : f mm = some (.inr (3, [.int t, .int x, .int y, .int z]))) (hw9 : a + (E i).length ≤ 8) (hq : fi (ra i) = some (.inr (0, [.int (nI i), .int (kd i), .int (nI (E j).length), .long (sat (prodE sg (E j))), .ref (ra j)]))) (hji : j < i) (hz : prodE sg (E j) < 9223372036854775808) (hE : E i = (E j).map flipE) (hTj : RTi K sg E ra kd fi j) (hPj : PLk l D B K sg E ra fi j) : Kc l D B K yX0_place cX0_place 7 ((some .long)) (i + 2) 0 0 [.ref (ra i), .ref hh, .int (nI a), .int d, .ref mm] f (Ql_ D B (fun r f9 => r = plR sg h (E i) a ∧ f9 = plF f mm t d (missE sg h (E i) a))) := by
  refine v_met [(0, .ref (ra i)), (1, .ref hh), (2, .int (nI a)), (3, .int d), (4, .ref mm)] (by decide) (Nat.le_of_ble_eq_true rfl) rfl ?_
  intro p e s m args below meth c C hr hlk hin
  have h0 := hI _ _ hq
  refine v_aload_n C dX0_place_0 rfl rfl ?_
  refine v_get C dX0_place_1 4 h0 rfl in_X0 (by decide) g_fl_X0_17 (fun _ h9 => h9) rfl ?_
  refine v_aload_n C dX0_place_4 rfl rfl ?_
  refine v_iload_n C dX0_place_5 rfl rfl ?_
  refine v_iload_n C dX0_place_6 rfl rfl ?_
  refine v_iconst (v := 1) C dX0_place_7 (by decide) ?_
  refine v_iadd C dX0_place_8 ?_
  refine v_aload C dX0_place_9 rfl ?_
  refine v_place (i := j) (a := a) (d := d + 1) C dX0_place_11 hTj hPj hI hH hA hM (by rw [hE, List.length_map] at hw9; exact hw9) g_ml_X0_23 (rn_le (by omega)) rfl (Nat.le_of_ble_eq_true rfl) ⟨Nat.le_refl _, Nat.le_refl _⟩ ?_
  rw [hE, miss_map sg h (E j) (g := flipE) (fun _ => rfl)]
  cases hm : missE sg h (E j) a with
  | some q =>
    have e9 : plR sg h (E j) a = -2 := by simp [plR, hm]
    refine v_rl e9 ?_
    refine v_lstore C dX0_place_14 (by decide) rfl ?_
    refine v_lload C dX0_place_16 rfl ?_
    refine v_ldc2 C dX0_place_18 g_kl_X0_27 ?_
    refine v_lc_ne (tgt := 31) C dX0_place_21 dX0_place_22 (by decide) (fun c_21 => absurd rfl c_21) (fun c_21 => ?_)
    refine v_ldc2 C dX0_place_25 g_kl_X0_27 ?_
    refine v_goto (tgt := 40) C dX0_place_28 (by decide) ?_
    exact v_lret C hr hlk dX0_place_40 (Nat.le_refl _) (Nat.le_refl _) ⟨by simp [plR, hE, miss_map sg h (E j) (g := flipE) (fun _ => rfl), hm], by simp [plF, flipE]; rw [nI_succ, Int32.add_assoc, Int32.add_comm 1]⟩
  | none =>
    have e9 : plR sg h (E j) a = sat (idxE sg h (E j) a 0) := by simp [plR, hm]
    refine v_rl e9 ?_
    have hfl := idx_flip hok hm
    refine v_lstore C dX0_place_14 (by decide) rfl ?_
    refine v_lload C dX0_place_16 rfl ?_
    refine v_ldc2 C dX0_place_18 g_kl_X0_27 ?_
    refine v_lc_ne (tgt := 31) C dX0_place_21 dX0_place_22 (by decide) (fun c_21 => ?_) (fun c_21 => absurd c_21 (sat_n2 _))
    refine v_aload_n C dX0_place_31 rfl rfl ?_
    refine v_get C dX0_place_32 3 h0 rfl in_X0 (by decide) g_fl_X0_29 (fun x9 h9 => u_same (C.2.2.2.2.1 _ g_sf_X0_size) x9 h9) rfl ?_
    refine v_lconst (v := 1) C dX0_place_35 (by decide) ?_
    refine v_lsub C dX0_place_36 ?_
    refine v_lload C dX0_place_37 rfl ?_
    refine v_lsub C dX0_place_39 ?_
    exact v_lret C hr hlk dX0_place_40 (Nat.le_refl _) (Nat.le_refl _) ⟨by simp only [plR, hE, miss_map sg h (E j) (g := flipE) (fun _ => rfl), hm, Option.map_none]; exact back_eq hz (by omega), rfl⟩

