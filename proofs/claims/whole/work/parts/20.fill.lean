/-! fill: all kinds of ranges -/
set_option maxHeartbeats 4000000 in
set_option maxRecDepth 100000 in
theorem c_Single_fill_X6 (l : Launch) (D : va_G) (B : Nat) (K : Nat → ClassId) (f : St) (sg : Nat → Sg) (E : Nat → List Ent) (ra : Nat → Nat) (kd : Nat → Int32) (fi : St) (i hh ha a k : Nat) (h : Nat → Int64) (fst lst : Int64) (sp : Int32) (hrow : rowOK (sg i) fst lst sp) (hok : ∀ o, okS (sg o)) (hI : Imm fi f) (hn : fi ha = none) (hH : f hh = some (.inr (2, [.ref ha]))) (hne : hh ≠ ha) (hA : f ha = some (.inl (K 1, 8, .inr (.inl h)))) (hw9 : a + (E i).length ≤ 8) (hk : k < prodE sg (E i)) (hk2 : k < 9223372036854775808) (hq : fi (ra i) = some (.inr (5, [.int (nI i), .int (kd i), .int 1, .long (sat (cntS (sg i))), .long fst, .long lst, .int sp]))) (hE : E i = [(i, false, 0)]) : Kc l D B K yX7_fill cX7_fill 5 none (i + 2) 0 0 [.ref (ra i), .ref hh, .int (nI a), .long (lN k)] f (Qv_ D B (fun f9 => f9 = va_up f ha (some (.inl (K 1, 8, .inr (.inl (filG sg (E i) a k h))))))) := by
  refine v_met [(0, .ref (ra i)), (1, .ref hh), (2, .int (nI a)), (3, .long (lN k))] (by decide) (Nat.le_of_ble_eq_true rfl) rfl ?_
  intro p e s m args below meth c C hr hlk hin
  have h0 := hI _ _ hq
  have ha8 : a < 8 := by rw [hE] at hw9; exact Nat.lt_of_succ_le hw9
  have hk3 : k < cntS (sg i) := by rw [hE, prod_1] at hk; exact hk
  refine v_aload_n C dX7_fill_0 rfl rfl ?_
  refine v_iload_n C dX7_fill_1 rfl rfl ?_
  refine v_aload_n C dX7_fill_2 rfl rfl ?_
  refine v_lload_n C dX7_fill_3 rfl rfl ?_
  refine v_cl (r_A (x := xS_valueAt) (owner := RX7) C (c_Row_valueAt l D B K _ (ra i) _ _ _ _ _ _ _ h0) dX7_fill_4 h0 rfl g_ml_X7_33 g_sm_X7_X7_valueAt g_se_X6_X7_valueAt_467d_yX6_valueAt g_im_yX6_valueAt g_in_X6 g_cd_yX6_valueAt (by decide +kernel) (rn_le (by omega)) (by decide) rfl hdn_xS_valueAt (Nat.le_of_ble_eq_true rfl) ⟨Nat.le_of_ble_eq_true rfl, Nat.le_of_ble_eq_true rfl⟩) (fun r_4 f_4 hp_4 => ?_)
  obtain ⟨rfl, rfl⟩ := hp_4
  refine v_rl (rv_eq hrow _ k) ?_
  refine v_cv (r_V C (c_take l D B K _ hh ha h (nI a) _ hH hA) dX7_fill_7 hH rfl g_ml_X7_36 g_im_yX2_take g_se_X2_yX2_take_yX2_take g_in_X2 g_cd_yX2_take (rn_le (by omega)) (by decide) rfl rfl hdn_yX2_take (Nat.le_of_ble_eq_true rfl) ⟨Nat.le_of_ble_eq_true rfl, Nat.le_of_ble_eq_true rfl⟩) (fun f_7 hp_7 => ?_)
  rw [if_neg (nI_pos (by omega)), if_neg (show ¬ (8 : Int32) ≤ nI a from nI_ge (b := 8) ha8 (by omega)), nI_clamp (by omega)] at hp_7
  subst hp_7
  exact v_vret C hr hlk dX7_fill_10 (Nat.le_refl _) (Nat.le_refl _) (by rw [hE, filG_1])

set_option maxHeartbeats 4000000 in
set_option maxRecDepth 100000 in
theorem c_Single_fill_X4 (l : Launch) (D : va_G) (B : Nat) (K : Nat → ClassId) (f : St) (sg : Nat → Sg) (E : Nat → List Ent) (ra : Nat → Nat) (kd : Nat → Int32) (fi : St) (i hh ha a k : Nat) (h : Nat → Int64) (ar fs : Int32) (hrow : namesOK (sg i) ar fs) (hok : ∀ o, okS (sg o)) (hI : Imm fi f) (hn : fi ha = none) (hH : f hh = some (.inr (2, [.ref ha]))) (hne : hh ≠ ha) (hA : f ha = some (.inl (K 1, 8, .inr (.inl h)))) (hw9 : a + (E i).length ≤ 8) (hk : k < prodE sg (E i)) (hk2 : k < 9223372036854775808) (hq : fi (ra i) = some (.inr (4, [.int (nI i), .int (kd i), .int 1, .long (sat (cntS (sg i))), .int ar, .int fs]))) (hE : E i = [(i, false, 0)]) : Kc l D B K yX7_fill cX7_fill 5 none (i + 2) 0 0 [.ref (ra i), .ref hh, .int (nI a), .long (lN k)] f (Qv_ D B (fun f9 => f9 = va_up f ha (some (.inl (K 1, 8, .inr (.inl (filG sg (E i) a k h))))))) := by
  refine v_met [(0, .ref (ra i)), (1, .ref hh), (2, .int (nI a)), (3, .long (lN k))] (by decide) (Nat.le_of_ble_eq_true rfl) rfl ?_
  intro p e s m args below meth c C hr hlk hin
  have h0 := hI _ _ hq
  have ha8 : a < 8 := by rw [hE] at hw9; exact Nat.lt_of_succ_le hw9
  have hk3 : k < cntS (sg i) := by rw [hE, prod_1] at hk; exact hk
  refine v_aload_n C dX7_fill_0 rfl rfl ?_
  refine v_iload_n C dX7_fill_1 rfl rfl ?_
  refine v_aload_n C dX7_fill_2 rfl rfl ?_
  refine v_lload_n C dX7_fill_3 rfl rfl ?_
  refine v_cl (r_A (x := xS_valueAt) (owner := RX7) C (c_Names_valueAt l D B K _ (ra i) _ _ _ _ _ _ h0) dX7_fill_4 h0 rfl g_ml_X7_33 g_sm_X7_X7_valueAt g_se_X4_X7_valueAt_467d_yX4_valueAt g_im_yX4_valueAt g_in_X4 g_cd_yX4_valueAt (by decide +kernel) (rn_le (by omega)) (by decide) rfl hdn_xS_valueAt (Nat.le_of_ble_eq_true rfl) ⟨Nat.le_of_ble_eq_true rfl, Nat.le_of_ble_eq_true rfl⟩) (fun r_4 f_4 hp_4 => ?_)
  obtain ⟨rfl, rfl⟩ := hp_4
  refine v_rl (nv_eq (hok i) hrow _ hk3) ?_
  refine v_cv (r_V C (c_take l D B K _ hh ha h (nI a) _ hH hA) dX7_fill_7 hH rfl g_ml_X7_36 g_im_yX2_take g_se_X2_yX2_take_yX2_take g_in_X2 g_cd_yX2_take (rn_le (by omega)) (by decide) rfl rfl hdn_yX2_take (Nat.le_of_ble_eq_true rfl) ⟨Nat.le_of_ble_eq_true rfl, Nat.le_of_ble_eq_true rfl⟩) (fun f_7 hp_7 => ?_)
  rw [if_neg (nI_pos (by omega)), if_neg (show ¬ (8 : Int32) ≤ nI a from nI_ge (b := 8) ha8 (by omega)), nI_clamp (by omega)] at hp_7
  subst hp_7
  exact v_vret C hr hlk dX7_fill_10 (Nat.le_refl _) (Nat.le_refl _) (by rw [hE, filG_1])

theorem back_fill {N k : Nat} (hN : N < 9223372036854775808) (h : k < N) : sat N - 1 - lN k = lN (N - 1 - k) := by
  rw [sat_lt hN, show (1 : Int64) = lN 1 from rfl, lN_sub (by omega), lN_sub (by omega)]
set_option maxHeartbeats 4000000 in
set_option maxRecDepth 100000 in
theorem c_Back_fill (l : Launch) (D : va_G) (B : Nat) (K : Nat → ClassId) (f : St) (sg : Nat → Sg) (E : Nat → List Ent) (ra : Nat → Nat) (kd : Nat → Int32) (fi : St) (i hh ha a k : Nat) (h : Nat → Int64) (j : Nat) (hok : ∀ o, okS (sg o)) (hI : Imm fi f) (hn : fi ha = none) (hH : f hh = some (.inr (2, [.ref ha]))) (hne : hh ≠ ha) (hA : f ha = some (.inl (K 1, 8, .inr (.inl h)))) (hw9 : a + (E i).length ≤ 8) (hk : k < prodE sg (E i)) (hk2 : k < 9223372036854775808) (hq : fi (ra i) = some (.inr (0, [.int (nI i), .int (kd i), .int (nI (E j).length), .long (sat (prodE sg (E j))), .ref (ra j)]))) (hji : j < i) (hz : prodE sg (E j) < 9223372036854775808) (hE : E i = (E j).map flipE) (hTj : RTi K sg E ra kd fi j) (hPj : FIk l D B K sg E ra fi j) : Kc l D B K yX0_fill cX0_fill 5 none (i + 2) 0 0 [.ref (ra i), .ref hh, .int (nI a), .long (lN k)] f (Qv_ D B (fun f9 => f9 = va_up f ha (some (.inl (K 1, 8, .inr (.inl (filG sg (E i) a k h))))))) := by
  refine v_met [(0, .ref (ra i)), (1, .ref hh), (2, .int (nI a)), (3, .long (lN k))] (by decide) (Nat.le_of_ble_eq_true rfl) rfl ?_
  intro p e s m args below meth c C hr hlk hin
  have h0 := hI _ _ hq
  have hkj : k < prodE sg (E j) := by rw [hE, prod_map sg _ (g := flipE) (fun _ => rfl)] at hk; exact hk
  refine v_aload_n C dX0_fill_0 rfl rfl ?_
  refine v_get C dX0_fill_1 4 h0 rfl in_X0 (by decide) g_fl_X0_17 (fun _ h9 => h9) rfl ?_
  refine v_aload_n C dX0_fill_4 rfl rfl ?_
  refine v_iload_n C dX0_fill_5 rfl rfl ?_
  refine v_aload_n C dX0_fill_6 rfl rfl ?_
  refine v_get C dX0_fill_7 3 h0 rfl in_X0 (by decide) g_fl_X0_29 (fun x9 h9 => u_same (C.2.2.2.2.1 _ g_sf_X0_size) x9 h9) rfl ?_
  refine v_lconst (v := 1) C dX0_fill_10 (by decide) ?_
  refine v_lsub C dX0_fill_11 ?_
  refine v_lload_n C dX0_fill_12 rfl rfl ?_
  refine v_lsub C dX0_fill_13 ?_
  refine v_rl (back_fill hz hkj) ?_
  refine v_fill (i := j) (a := a) (k9 := prodE sg (E j) - 1 - k) C dX0_fill_14 hTj hPj hI hn hH hne hA (by rw [hE, List.length_map] at hw9; exact hw9) (by omega) (by omega) g_ml_X0_30 (rn_le (by omega)) rfl (Nat.le_of_ble_eq_true rfl) ⟨Nat.le_refl _, Nat.le_refl _⟩ ?_
  exact v_vret C hr hlk dX0_fill_17 (Nat.le_refl _) (Nat.le_refl _) (by rw [hE, filG_flip hkj])

theorem drop_fm {js : List Nat} {u j : Nat} (E : Nat → List Ent) (hj : js[u]? = some j) : (js.drop u).flatMap E = E j ++ (js.drop (u + 1)).flatMap E := by
  have hlt := (List.getElem?_eq_some_iff.mp hj).1
  have hje := (List.getElem?_eq_some_iff.mp hj).2
  rw [List.drop_eq_getElem_cons hlt, hje, List.flatMap_cons]
theorem fil_step {sg : Nat → Sg} {E : Nat → List Ent} {js : List Nat} {u j a k : Nat} {h : Nat → Int64} (hj : js[u]? = some j) (h1 : 1 ≤ (E j).length) : filG sg (E j) (a + ((js.take u).flatMap E).length) (k / prodE sg ((js.drop (u + 1)).flatMap E) % prodE sg (E j)) (filG sg ((js.drop (u + 1)).flatMap E) (a + ((js.take (u + 1)).flatMap E).length) (k % prodE sg ((js.drop (u + 1)).flatMap E)) h) = filG sg ((js.drop u).flatMap E) (a + ((js.take u).flatMap E).length) (k % prodE sg ((js.drop u).flatMap E)) h := by
  rw [drop_fm E hj, prod_app, filG_app (by intro h9; rw [h9] at h1; simp at h1), take_fm E hj, List.length_append, Nat.add_assoc]
theorem fil_div {sg : Nat → Sg} {E : Nat → List Ent} {js : List Nat} {u j k : Nat} (hj : js[u]? = some j) : k / prodE sg ((js.drop (u + 1)).flatMap E) / prodE sg (E j) = k / prodE sg ((js.drop u).flatMap E) := by
  rw [drop_fm E hj, prod_app, Nat.div_div_eq_div_mul, Nat.mul_comm]
theorem fil_wide {E : Nat → List Ent} {js : List Nat} {u j a : Nat} (hj : js[u]? = some j) : nI (a + ((js.take (u + 1)).flatMap E).length) - nI (E j).length = nI (a + ((js.take u).flatMap E).length) := by
  rw [take_fm E hj, List.length_append, pk_sub (by omega)]
  congr 1
  omega
theorem fil_pos {sg : Nat → Sg} {E : Nat → List Ent} {js : List Nat} {u j k : Nat} (hj : js[u]? = some j) (hk : k < prodE sg (js.flatMap E)) : 0 < prodE sg (E j) := by
  rw [split_fm E hj, prod_app, prod_app] at hk
  rcases Nat.eq_zero_or_pos (prodE sg (E j)) with q | q
  · rw [q] at hk; simp at hk
  · exact q
theorem sat_pos {n : Nat} (h : 0 < n) (h2 : n < 9223372036854775808) : ¬ sat n ≤ 0 := by
  rw [sat_lt h2]
  intro h9
  have := (pk_lLE (b := 0) h2 (by omega)).mp h9
  omega
set_option maxHeartbeats 4000000 in
set_option maxRecDepth 100000 in
theorem L_Beside_fill {p : Program} {l : Launch} {e : Env} {s : State} {m : MethodId} {args : Array Value} {below : List Frame} {meth : Method} {c : Code} {D : va_G} {B : Nat} {K : Nat → ClassId} (C : Cx p s m args c cX1_fill 11 yX1_fill.cls D B K) (hr : meth.sig.returnType = none) (hlk : meth.locks = false) (f : St) (sg : Nat → Sg) (E : Nat → List Ent) (ra : Nat → Nat) (kd : Nat → Int32) (fi : St) (i hh ha a k : Nat) (h : Nat → Int64) (hok : ∀ o, okS (sg o)) (hI : Imm fi f) (hn : fi ha = none) (hH : f hh = some (.inr (2, [.ref ha]))) (hne : hh ≠ ha) (hA : f ha = some (.inl (K 1, 8, .inr (.inl h)))) (hw9 : a + (E i).length ≤ 8) (hk : k < prodE sg (E i)) (hk2 : k < 9223372036854775808) (js : List Nat) (pa : Nat) (g : Nat → Option Nat) (hq : fi (ra i) = some (.inr (1, [.int (nI i), .int (kd i), .int (nI (E i).length), .long (sat (prodE sg (E i))), .ref pa]))) (hpa : fi pa = some (.inl (K 3, js.length, .inr (.inr (.inr (.inr g)))))) (h3 : js.length ≤ 3) (hg : ∀ t j, js[t]? = some j → g t = some (ra j)) (hE : E i = (js.flatMap E).map deepE) (hjs : ∀ j ∈ js, j < i ∧ RTi K sg E ra kd fi j ∧ FIk l D B K sg E ra fi j ∧ 1 ≤ (E j).length) : ∀ (tt : Nat), tt ≤ js.length → V p l e (RM (i + 2) 0 0) s m args below meth c D B 11 (MQ below (Qv_ D B (fun f9 => f9 = va_up f ha (some (.inl (K 1, 8, .inr (.inl (filG sg (E i) a k h))))))) args s 0 0 (AB B)) 0 0 (va_up f ha (some (.inl (K 1, 8, .inr (.inl (filG sg ((js.drop tt).flatMap E) (a + ((js.take tt).flatMap E).length) (k % prodE sg ((js.drop tt).flatMap E)) h)))))) (lof [(0, .ref (ra i)), (1, .ref hh), (5, .long (lN (k / prodE sg ((js.drop tt).flatMap E)))), (7, .int (nI (a + ((js.take tt).flatMap E).length))), (8, .int (nI tt - 1))]) 20 [] := by
  have hkk : k < prodE sg (js.flatMap E) := by rw [hE, prod_map sg _ (g := deepE) (fun _ => rfl)] at hk; exact hk
  intro tt
  induction tt with
  | zero =>
    intro _
    rw [show nI 0 - 1 = (-1 : Int32) by decide]
    refine v_iload C dX1_fill_20 rfl ?_
    refine v_if_lt (tgt := 112) C dX1_fill_22 (by decide) (fun c_22 => ?_) (fun c_22 => absurd (by decide) c_22)
    exact v_vret C hr hlk dX1_fill_112 (Nat.le_refl _) (Nat.le_refl _) (by rw [hE, filG_deep]; simp only [List.drop_zero, List.take_zero, List.flatMap_nil, List.length_nil, Nat.add_zero]; rw [Nat.mod_eq_of_lt hkk])
  | succ u ih =>
    intro hlt
    rw [nI_pred]
    obtain ⟨j, hj⟩ : ∃ j, js[u]? = some j := ⟨_, List.getElem?_eq_getElem hlt⟩
    obtain ⟨hji, hTj, hPj, h1j⟩ := hjs j (List.mem_of_getElem? hj)
    obtain ⟨ci, fs, hci, hcell, hf0, hf1, hf2, hf3⟩ := RT_hdr hTj
    have hN0 := fil_pos hj hkk
    have hrest : k / prodE sg ((js.drop (u + 1)).flatMap E) < 9223372036854775808 := Nat.lt_of_le_of_lt (Nat.div_le_self _ _) hk2
    have hI2 := hI.up (y := (some (.inl (K 1, 8, .inr (.inl (filG sg ((js.drop (u + 1)).flatMap E) (a + ((js.take (u + 1)).flatMap E).length) (k % prodE sg ((js.drop (u + 1)).flatMap E)) h)))))) hn
    have hH2 : va_up f ha (some (.inl (K 1, 8, .inr (.inl (filG sg ((js.drop (u + 1)).flatMap E) (a + ((js.take (u + 1)).flatMap E).length) (k % prodE sg ((js.drop (u + 1)).flatMap E)) h))))) hh = some (.inr (2, [.ref ha])) := by rw [va_up_ne _ _ hne]; exact hH
    have hA2 : va_up f ha (some (.inl (K 1, 8, .inr (.inl (filG sg ((js.drop (u + 1)).flatMap E) (a + ((js.take (u + 1)).flatMap E).length) (k % prodE sg ((js.drop (u + 1)).flatMap E)) h))))) ha = some (.inl (K 1, 8, .inr (.inl (filG sg ((js.drop (u + 1)).flatMap E) (a + ((js.take (u + 1)).flatMap E).length) (k % prodE sg ((js.drop (u + 1)).flatMap E)) h)))) := va_up_self _ _ _
    refine v_iload C dX1_fill_20 rfl ?_
    refine v_if_lt (tgt := 112) C dX1_fill_22 (by decide) (fun c_22 => absurd c_22 (nI_pos (by omega))) (fun c_22 => ?_)
    refine v_aload_n C dX1_fill_25 rfl rfl ?_
    refine v_get C dX1_fill_26 4 (hI2 _ _ hq) rfl in_X1 (by decide) g_fl_X1_9 (fun _ h9 => h9) rfl ?_
    refine v_iload C dX1_fill_29 rfl ?_
    refine v_aldq C dX1_fill_31 (hI2 _ _ hpa) (vp_in_nI hlt (by omega)) ?_
    refine v_rq (by rw [nI_clamp (by omega)]; exact hg u j hj) ?_
    refine v_astore C dX1_fill_32 (by decide) rfl ?_
    refine v_iload C dX1_fill_34 rfl ?_
    refine v_aload C dX1_fill_36 rfl ?_
    refine v_getR C dX1_fill_38 2 (by decide) hci (hI2 _ _ hcell) g_fl_X1_32 hf2 ?_
    refine v_isub C dX1_fill_41 ?_
    refine v_ri (fil_wide hj) ?_
    refine v_istore C dX1_fill_42 (by decide) rfl ?_
    by_cases hN : prodE sg (E j) < 9223372036854775808
    · refine v_aload C dX1_fill_44 rfl ?_
      refine v_getR C dX1_fill_46 3 (by decide) hci (hI2 _ _ hcell) g_fl_X1_21 hf3 ?_
      refine v_lconst (v := 0) C dX1_fill_49 (by decide) ?_
      refine v_lc_le (tgt := 58) C dX1_fill_50 dX1_fill_51 (by decide) (fun c_50 => absurd c_50 (sat_pos hN0 hN)) (fun c_50 => ?_)
      refine v_iconst (v := 1) C dX1_fill_54 (by decide) ?_
      refine v_goto (tgt := 59) C dX1_fill_55 (by decide) ?_
      refine v_istore C dX1_fill_59 (by decide) rfl ?_
      refine v_aload C dX1_fill_61 rfl ?_
      refine v_aload_n C dX1_fill_63 rfl rfl ?_
      refine v_iload C dX1_fill_64 rfl ?_
      refine v_iload C dX1_fill_66 rfl ?_
      refine v_if_eq (tgt := 82) C dX1_fill_68 (by decide) (fun c_68 => absurd c_68 (by decide)) (fun _ => ?_)
      refine v_lload C dX1_fill_71 rfl ?_
      refine v_aload C dX1_fill_73 rfl ?_
      refine v_getR C dX1_fill_75 3 (by decide) hci (hI2 _ _ hcell) g_fl_X1_21 hf3 ?_
      refine v_rl (sat_lt hN) ?_
      refine v_lrem C dX1_fill_78 (fun h9 => by have h8 := (pk_lEQ (b := 0) hN (by omega)).mp h9; omega) ?_
      refine v_rl (pk_lRem hrest hN0 hN) ?_
      refine v_goto (tgt := 84) C dX1_fill_79 (by decide) ?_
      refine v_fill (i := j) (a := a + ((js.take u).flatMap E).length) (k9 := k / prodE sg ((js.drop (u + 1)).flatMap E) % prodE sg (E j)) C dX1_fill_84 hTj hPj hI2 hn hH2 hne hA2 (by have h9 := fm_len E hj; rw [hE, List.length_map] at hw9; omega) (Nat.mod_lt _ hN0) (Nat.lt_of_le_of_lt (Nat.mod_le _ _) hrest) g_ml_X1_37 (rn_le (by omega)) rfl (Nat.le_of_ble_eq_true rfl) ⟨Nat.le_refl _, Nat.le_refl _⟩ ?_
      have hI3 := hI2.up (y := (some (.inl (K 1, 8, .inr (.inl (filG sg (E j) (a + ((js.take u).flatMap E).length) (k / prodE sg ((js.drop (u + 1)).flatMap E) % prodE sg (E j)) (filG sg ((js.drop (u + 1)).flatMap E) (a + ((js.take (u + 1)).flatMap E).length) (k % prodE sg ((js.drop (u + 1)).flatMap E)) h))))))) hn
      refine v_iload C dX1_fill_87 rfl ?_
      refine v_if_eq (tgt := 103) C dX1_fill_89 (by decide) (fun c_89 => absurd c_89 (by decide)) (fun _ => ?_)
      refine v_lload C dX1_fill_92 rfl ?_
      refine v_aload C dX1_fill_94 rfl ?_
      refine v_getR C dX1_fill_96 3 (by decide) hci (hI3 _ _ hcell) g_fl_X1_21 hf3 ?_
      refine v_rl (sat_lt hN) ?_
      refine v_ldiv C dX1_fill_99 (fun h9 => by have h8 := (pk_lEQ (b := 0) hN (by omega)).mp h9; omega) ?_
      refine v_rl (pk_lDiv hrest hN0 hN) ?_
      refine v_rl (congrArg lN (fil_div hj)) ?_
      refine v_goto (tgt := 104) C dX1_fill_100 (by decide) ?_
      refine v_lstore C dX1_fill_104 (by decide) rfl ?_
      refine v_iinc (y := (-1)) C dX1_fill_106 rfl (by decide) (by decide) rfl ?_
      refine v_goto (tgt := 20) C dX1_fill_109 (by decide) ?_
      refine v_loc [(0, .ref (ra i)), (1, .ref hh), (5, .long (lN (k / prodE sg ((js.drop u).flatMap E)))), (7, .int (nI (a + ((js.take u).flatMap E).length))), (8, .int (nI u - 1))] (lsub_c rfl (lsub_c rfl (lsub_c rfl (lsub_c rfl (lsub_c (by rw [Int32.sub_eq_add_neg]; rfl) lsub_n))))) ?_
      rw [bx_uu, fil_step hj h1j]
      exact ih (by omega)
    · refine v_aload C dX1_fill_44 rfl ?_
      refine v_getR C dX1_fill_46 3 (by decide) hci (hI2 _ _ hcell) g_fl_X1_21 hf3 ?_
      refine v_lconst (v := 0) C dX1_fill_49 (by decide) ?_
      refine v_lc_le (tgt := 58) C dX1_fill_50 dX1_fill_51 (by decide) (fun c_50 => ?_) (fun c_50 => absurd (show sat (prodE sg (E j)) ≤ 0 by rw [sat_ge (by omega)]; decide) c_50)
      refine v_iconst (v := 0) C dX1_fill_58 (by decide) ?_
      refine v_istore C dX1_fill_59 (by decide) rfl ?_
      refine v_aload C dX1_fill_61 rfl ?_
      refine v_aload_n C dX1_fill_63 rfl rfl ?_
      refine v_iload C dX1_fill_64 rfl ?_
      refine v_iload C dX1_fill_66 rfl ?_
      refine v_if_eq (tgt := 82) C dX1_fill_68 (by decide) (fun _ => ?_) (fun c_68 => absurd c_68 (by decide))
      refine v_lload C dX1_fill_82 rfl ?_
      refine v_rl (show lN (k / prodE sg ((js.drop (u + 1)).flatMap E)) = lN (k / prodE sg ((js.drop (u + 1)).flatMap E) % prodE sg (E j)) by rw [Nat.mod_eq_of_lt (by omega)]) ?_
      refine v_fill (i := j) (a := a + ((js.take u).flatMap E).length) (k9 := k / prodE sg ((js.drop (u + 1)).flatMap E) % prodE sg (E j)) C dX1_fill_84 hTj hPj hI2 hn hH2 hne hA2 (by have h9 := fm_len E hj; rw [hE, List.length_map] at hw9; omega) (Nat.mod_lt _ hN0) (Nat.lt_of_le_of_lt (Nat.mod_le _ _) hrest) g_ml_X1_37 (rn_le (by omega)) rfl (Nat.le_of_ble_eq_true rfl) ⟨Nat.le_refl _, Nat.le_refl _⟩ ?_
      refine v_iload C dX1_fill_87 rfl ?_
      refine v_if_eq (tgt := 103) C dX1_fill_89 (by decide) (fun _ => ?_) (fun c_89 => absurd c_89 (by decide))
      refine v_lconst (v := 0) C dX1_fill_103 (by decide) ?_
      refine v_rl (show (0 : Int64) = lN (k / prodE sg ((js.drop (u + 1)).flatMap E) / prodE sg (E j)) by rw [Nat.div_eq_of_lt (by omega)]; rfl) ?_
      refine v_rl (congrArg lN (fil_div hj)) ?_
      refine v_lstore C dX1_fill_104 (by decide) rfl ?_
      refine v_iinc (y := (-1)) C dX1_fill_106 rfl (by decide) (by decide) rfl ?_
      refine v_goto (tgt := 20) C dX1_fill_109 (by decide) ?_
      refine v_loc [(0, .ref (ra i)), (1, .ref hh), (5, .long (lN (k / prodE sg ((js.drop u).flatMap E)))), (7, .int (nI (a + ((js.take u).flatMap E).length))), (8, .int (nI u - 1))] (lsub_c rfl (lsub_c rfl (lsub_c rfl (lsub_c rfl (lsub_c (by rw [Int32.sub_eq_add_neg]; rfl) lsub_n))))) ?_
      rw [bx_uu, fil_step hj h1j]
      exact ih (by omega)

set_option maxHeartbeats 4000000 in
set_option maxRecDepth 100000 in
theorem c_Beside_fill (l : Launch) (D : va_G) (B : Nat) (K : Nat → ClassId) (f : St) (sg : Nat → Sg) (E : Nat → List Ent) (ra : Nat → Nat) (kd : Nat → Int32) (fi : St) (i hh ha a k : Nat) (h : Nat → Int64) (hok : ∀ o, okS (sg o)) (hI : Imm fi f) (hn : fi ha = none) (hH : f hh = some (.inr (2, [.ref ha]))) (hne : hh ≠ ha) (hA : f ha = some (.inl (K 1, 8, .inr (.inl h)))) (hw9 : a + (E i).length ≤ 8) (hk : k < prodE sg (E i)) (hk2 : k < 9223372036854775808) (js : List Nat) (pa : Nat) (g : Nat → Option Nat) (hq : fi (ra i) = some (.inr (1, [.int (nI i), .int (kd i), .int (nI (E i).length), .long (sat (prodE sg (E i))), .ref pa]))) (hpa : fi pa = some (.inl (K 3, js.length, .inr (.inr (.inr (.inr g)))))) (h3 : js.length ≤ 3) (hg : ∀ t j, js[t]? = some j → g t = some (ra j)) (hE : E i = (js.flatMap E).map deepE) (hjs : ∀ j ∈ js, j < i ∧ RTi K sg E ra kd fi j ∧ FIk l D B K sg E ra fi j ∧ 1 ≤ (E j).length) : Kc l D B K yX1_fill cX1_fill 11 none (i + 2) 0 0 [.ref (ra i), .ref hh, .int (nI a), .long (lN k)] f (Qv_ D B (fun f9 => f9 = va_up f ha (some (.inl (K 1, 8, .inr (.inl (filG sg (E i) a k h))))))) := by
  refine v_met [(0, .ref (ra i)), (1, .ref hh), (2, .int (nI a)), (3, .long (lN k))] (by decide) (Nat.le_of_ble_eq_true rfl) rfl ?_
  intro p e s m args below meth c C hr hlk hin
  refine v_lload_n C dX1_fill_0 rfl rfl ?_
  refine v_lstore C dX1_fill_1 (by decide) rfl ?_
  refine v_iload_n C dX1_fill_3 rfl rfl ?_
  refine v_aload_n C dX1_fill_4 rfl rfl ?_
  refine v_get C dX1_fill_5 2 (hI _ _ hq) rfl in_X1 (by decide) g_fl_X1_36 (fun x9 h9 => u_same (C.2.2.2.2.1 _ g_sf_X1_width) x9 h9) rfl ?_
  refine v_iadd C dX1_fill_8 ?_
  refine v_ri (show nI a + nI (E i).length = nI (a + ((js.take js.length).flatMap E).length) by rw [nI_add, List.take_length, hE, List.length_map]) ?_
  refine v_istore C dX1_fill_9 (by decide) rfl ?_
  refine v_aload_n C dX1_fill_11 rfl rfl ?_
  refine v_get C dX1_fill_12 4 (hI _ _ hq) rfl in_X1 (by decide) g_fl_X1_9 (fun _ h9 => h9) rfl ?_
  refine v_alen C dX1_fill_15 3 (hI _ _ hpa) rfl rfl ?_
  refine v_iconst (v := 1) C dX1_fill_16 (by decide) ?_
  refine v_isub C dX1_fill_17 ?_
  refine v_istore C dX1_fill_18 (by decide) rfl ?_
  refine v_loc [(0, .ref (ra i)), (1, .ref hh), (5, .long (lN (k / prodE sg ((js.drop js.length).flatMap E)))), (7, .int (nI (a + ((js.take js.length).flatMap E).length))), (8, .int (nI js.length - 1))] (lsub_c rfl (lsub_c rfl (lsub_c (by rw [List.drop_length]; show some (Value.long (lN k)) = some (Value.long (lN (k / 1))); rw [Nat.div_one]) (lsub_c rfl (lsub_c rfl lsub_n))))) ?_
  have hL := L_Beside_fill (e := e) (below := below) C hr hlk f sg E ra kd fi i hh ha a k h hok hI hn hH hne hA hw9 hk hk2 js pa g hq hpa h3 hg hE hjs js.length (Nat.le_refl _)
  rw [show filG sg ((js.drop js.length).flatMap E) (a + ((js.take js.length).flatMap E).length) (k % prodE sg ((js.drop js.length).flatMap E)) h = h by rw [List.drop_length]; exact filG_nil, va_up_id hA] at hL
  exact hL

theorem fill_all (l : Launch) (D : va_G) (B : Nat) (K : Nat → ClassId) {sg : Nat → Sg} {E : Nat → List Ent} {ra : Nat → Nat} {kd : Nat → Int32} {fi : St} {n : Nat} (hT : RT K sg E ra kd fi n) : ∀ i, i < n → FIk l D B K sg E ra fi i := by
  intro i
  induction i using Nat.strongRecOn with
  | _ i ih =>
    intro hi f hh ha a k h hI hn hH hne hA hw9 hk hk2
    obtain ⟨hok, hT2⟩ := hT
    rcases (hT2 i hi).1 with ⟨⟨fst, lst, sp, q1, q2⟩ | ⟨ar, fs, q1, q2⟩, hE⟩ | ⟨j, hj, q1, q2, hE⟩ | ⟨js, pa, g, q0, q3, q1, q2, q4, hE⟩
    · refine ⟨fun _ => c_Single_fill_X6 l D B K f sg E ra kd fi i hh ha a k h fst lst sp q2 hok hI hn hH hne hA hw9 hk hk2 q1 hE, fun h9 => ?_, fun h9 => ?_⟩
      · obtain ⟨fs, h9⟩ := h9; rw [q1] at h9; simp at h9
      · obtain ⟨fs, h9⟩ := h9; rw [q1] at h9; simp at h9
    · refine ⟨fun _ => c_Single_fill_X4 l D B K f sg E ra kd fi i hh ha a k h ar fs q2 hok hI hn hH hne hA hw9 hk hk2 q1 hE, fun h9 => ?_, fun h9 => ?_⟩
      · obtain ⟨fs, h9⟩ := h9; rw [q1] at h9; simp at h9
      · obtain ⟨fs, h9⟩ := h9; rw [q1] at h9; simp at h9
    · refine ⟨fun h9 => ?_, fun _ => c_Back_fill l D B K f sg E ra kd fi i hh ha a k h j hok hI hn hH hne hA hw9 hk hk2 q1 hj q2 hE (hT2 j (by omega)).1 (ih j hj (by omega)), fun h9 => ?_⟩
      · rcases h9 with ⟨fs, h9⟩ | ⟨fs, h9⟩ <;> (rw [q1] at h9; simp at h9)
      · obtain ⟨fs, h9⟩ := h9; rw [q1] at h9; simp at h9
    · refine ⟨fun h9 => ?_, fun h9 => ?_, fun _ => c_Beside_fill l D B K f sg E ra kd fi i hh ha a k h hok hI hn hH hne hA hw9 hk hk2 js pa g q1 q2 q3 q4 hE (fun j hj => ⟨q0 j hj, (hT2 j (by have := q0 j hj; omega)).1, ih j (q0 j hj) (by have := q0 j hj; omega), (hT2 j (by have := q0 j hj; omega)).2.2.1⟩)⟩
      · rcases h9 with ⟨fs, h9⟩ | ⟨fs, h9⟩ <;> (rw [q1] at h9; simp at h9)
      · obtain ⟨fs, h9⟩ := h9; rw [q1] at h9; simp at h9
