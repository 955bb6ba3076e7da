/-! the program: what is asked of it -/
set_option maxHeartbeats 4000000 in
set_option maxRecDepth 100000 in
theorem c_size_bad (l : Launch) (D : va_G) (B : Nat) (K : Nat → ClassId) (f : St) (q : Nat → Nat) (n na : Nat) (x : Int32) (h0 : f (q 0) = some (.inr (6, [.ref (q 1), .ref (q 2), .ref (q 3), .ref (q 4), .ref (q 5), .ref (q 6), .int (nI n), .int (nI na)]))) (hn40 : n ≤ 40) (hx : x < 0 ∨ nI n ≤ x) : Kc l D B K yX8_size cX8_size 3 ((some .long)) 50 0 0 [.ref (q 0), .int x] f (Ql_ D B (fun r f9 => r = -1000000101 ∧ f9 = f)) := by
  refine v_met [(0, .ref (q 0)), (1, .int x)] (by decide) (Nat.le_of_ble_eq_true rfl) rfl ?_
  intro p e s m args below meth c C hr hlk hin
  refine v_aload_n C dX8_size_0 rfl rfl ?_
  refine v_iload_n C dX8_size_1 rfl rfl ?_
  refine v_cq (r_V C (c_rangeOf_bad l D B K _ q n na x h0 hx hn40) dX8_size_2 h0 rfl g_ml_X8_71 g_im_yX8_rangeOf g_se_X8_yX8_rangeOf_yX8_rangeOf g_in_X8 g_cd_yX8_rangeOf (rn_le (by decide)) (by decide) rfl rfl hdn_yX8_rangeOf (Nat.le_of_ble_eq_true rfl) ⟨Nat.le_of_ble_eq_true rfl, Nat.le_of_ble_eq_true rfl⟩) (fun r_2 f_2 hp_2 => ?_)
  obtain ⟨rfl, rfl⟩ := hp_2
  refine v_rn rfl ?_
  refine v_astore_nN C dX8_size_5 rfl (by decide) rfl ?_
  refine v_aload_nN C dX8_size_6 rfl rfl ?_
  refine v_ifnonnullN C dX8_size_7 ?_
  refine v_bipush (v := (-101)) C dX8_size_10 (by decide) ?_
  refine v_cl (r_S C (c_longCode l D B K _ _) dX8_size_12 g_ml_X8_100 g_st_yX8_longCode g_in_X8 g_cd_yX8_longCode (rn_le (by decide)) (by decide) rfl hdn_yX8_longCode (Nat.le_of_ble_eq_true rfl) ⟨Nat.le_of_ble_eq_true rfl, Nat.le_of_ble_eq_true rfl⟩) (fun r_12 f_12 hp_12 => ?_)
  obtain ⟨rfl, rfl⟩ := hp_12
  refine v_goto (tgt := 22) C dX8_size_15 (by decide) ?_
  exact v_lret C hr hlk dX8_size_22 (Nat.le_of_ble_eq_true rfl) (Nat.le_of_ble_eq_true rfl) ⟨by decide, rfl⟩

set_option maxHeartbeats 4000000 in
set_option maxRecDepth 100000 in
theorem c_size_ok (l : Launch) (D : va_G) (B : Nat) (K : Nat → ClassId) (f : St) (q : Nat → Nat) (n na : Nat) (g : Nat → Option Nat) (fi : St) (sg : Nat → Sg) (E : Nat → List Ent) (ra : Nat → Nat) (kd : Nat → Int32) (i : Nat) (h0 : f (q 0) = some (.inr (6, [.ref (q 1), .ref (q 2), .ref (q 3), .ref (q 4), .ref (q 5), .ref (q 6), .int (nI n), .int (nI na)]))) (h4 : f (q 4) = some (.inl (K 3, 40, .inr (.inr (.inr (.inr (g))))))) (hn40 : n ≤ 40) (hT : RT K sg E ra kd fi n) (hI : Imm fi f) (hg : ∀ i, i < n → g i = some (ra i)) (hi : i < n) : Kc l D B K yX8_size cX8_size 3 ((some .long)) 50 0 0 [.ref (q 0), .int (nI i)] f (Ql_ D B (fun r f9 => r = sat (prodE sg (E i)) ∧ f9 = f)) := by
  refine v_met [(0, .ref (q 0)), (1, .int (nI i))] (by decide) (Nat.le_of_ble_eq_true rfl) rfl ?_
  intro p e s m args below meth c C hr hlk hin
  obtain ⟨cii, fsi, hcii, hcelli, hf0i, hf1i, hf2i, hf3i⟩ := RT_hdr (hT.2 i hi).1
  refine v_aload_n C dX8_size_0 rfl rfl ?_
  refine v_iload_n C dX8_size_1 rfl rfl ?_
  refine v_cq (r_V C (c_rangeOf_ok l D B K _ q n na g i (ra i) h0 h4 hi hn40 (hg i hi)) dX8_size_2 h0 rfl g_ml_X8_71 g_im_yX8_rangeOf g_se_X8_yX8_rangeOf_yX8_rangeOf g_in_X8 g_cd_yX8_rangeOf (rn_le (by decide)) (by decide) rfl rfl hdn_yX8_rangeOf (Nat.le_of_ble_eq_true rfl) ⟨Nat.le_of_ble_eq_true rfl, Nat.le_of_ble_eq_true rfl⟩) (fun r_2 f_2 hp_2 => ?_)
  obtain ⟨rfl, rfl⟩ := hp_2
  refine v_rq rfl ?_
  refine v_astore_n C dX8_size_5 rfl (by decide) rfl ?_
  refine v_aload_n C dX8_size_6 rfl rfl ?_
  refine v_ifnonnull (tgt := 18) C dX8_size_7 (by decide) ?_
  refine v_aload_n C dX8_size_18 rfl rfl ?_
  refine v_getR C dX8_size_19 3 (by decide) hcii (hI _ _ hcelli) g_fl_X8_75 hf3i ?_
  exact v_lret C hr hlk dX8_size_22 (Nat.le_of_ble_eq_true rfl) (Nat.le_of_ble_eq_true rfl) ⟨rfl, rfl⟩

set_option maxHeartbeats 4000000 in
set_option maxRecDepth 100000 in
theorem c_told_bad (l : Launch) (D : va_G) (B : Nat) (K : Nat → ClassId) (f : St) (q : Nat → Nat) (n na : Nat) (x : Int32) (h0 : f (q 0) = some (.inr (6, [.ref (q 1), .ref (q 2), .ref (q 3), .ref (q 4), .ref (q 5), .ref (q 6), .int (nI n), .int (nI na)]))) (hn40 : n ≤ 40) (hx : x < 0 ∨ nI n ≤ x) (w : Int32) : Kc l D B K yX8_told cX8_told 4 ((some .int)) 50 0 0 [.ref (q 0), .int x, .int w] f (Qi_ D B (fun r f9 => r = -101 ∧ f9 = f)) := by
  refine v_met [(0, .ref (q 0)), (1, .int x), (2, .int w)] (by decide) (Nat.le_of_ble_eq_true rfl) rfl ?_
  intro p e s m args below meth c C hr hlk hin
  refine v_aload_n C dX8_told_0 rfl rfl ?_
  refine v_iload_n C dX8_told_1 rfl rfl ?_
  refine v_cq (r_V C (c_rangeOf_bad l D B K _ q n na x h0 hx hn40) dX8_told_2 h0 rfl g_ml_X8_71 g_im_yX8_rangeOf g_se_X8_yX8_rangeOf_yX8_rangeOf g_in_X8 g_cd_yX8_rangeOf (rn_le (by decide)) (by decide) rfl rfl hdn_yX8_rangeOf (Nat.le_of_ble_eq_true rfl) ⟨Nat.le_of_ble_eq_true rfl, Nat.le_of_ble_eq_true rfl⟩) (fun r_2 f_2 hp_2 => ?_)
  obtain ⟨rfl, rfl⟩ := hp_2
  refine v_rn rfl ?_
  refine v_astore_nN C dX8_told_5 rfl (by decide) rfl ?_
  refine v_aload_nN C dX8_told_6 rfl rfl ?_
  refine v_ifnonnullN C dX8_told_7 ?_
  refine v_bipush (v := (-101)) C dX8_told_10 (by decide) ?_
  exact v_iret C hr hlk dX8_told_12 (Nat.le_of_ble_eq_true rfl) (Nat.le_of_ble_eq_true rfl) ⟨rfl, rfl⟩

set_option maxHeartbeats 4000000 in
set_option maxRecDepth 100000 in
theorem c_told_0 (l : Launch) (D : va_G) (B : Nat) (K : Nat → ClassId) (f : St) (q : Nat → Nat) (n na : Nat) (g : Nat → Option Nat) (fi : St) (sg : Nat → Sg) (E : Nat → List Ent) (ra : Nat → Nat) (kd : Nat → Int32) (i : Nat) (h0 : f (q 0) = some (.inr (6, [.ref (q 1), .ref (q 2), .ref (q 3), .ref (q 4), .ref (q 5), .ref (q 6), .int (nI n), .int (nI na)]))) (h4 : f (q 4) = some (.inl (K 3, 40, .inr (.inr (.inr (.inr (g))))))) (hn40 : n ≤ 40) (hT : RT K sg E ra kd fi n) (hI : Imm fi f) (hg : ∀ i, i < n → g i = some (ra i)) (hi : i < n) : Kc l D B K yX8_told cX8_told 4 ((some .int)) 50 0 0 [.ref (q 0), .int (nI i), .int 0] f (Qi_ D B (fun r f9 => r = kd i ∧ f9 = f)) := by
  refine v_met [(0, .ref (q 0)), (1, .int (nI i)), (2, .int 0)] (by decide) (Nat.le_of_ble_eq_true rfl) rfl ?_
  intro p e s m args below meth c C hr hlk hin
  obtain ⟨cii, fsi, hcii, hcelli, hf0i, hf1i, hf2i, hf3i⟩ := RT_hdr (hT.2 i hi).1
  refine v_aload_n C dX8_told_0 rfl rfl ?_
  refine v_iload_n C dX8_told_1 rfl rfl ?_
  refine v_cq (r_V C (c_rangeOf_ok l D B K _ q n na g i (ra i) h0 h4 hi hn40 (hg i hi)) dX8_told_2 h0 rfl g_ml_X8_71 g_im_yX8_rangeOf g_se_X8_yX8_rangeOf_yX8_rangeOf g_in_X8 g_cd_yX8_rangeOf (rn_le (by decide)) (by decide) rfl rfl hdn_yX8_rangeOf (Nat.le_of_ble_eq_true rfl) ⟨Nat.le_of_ble_eq_true rfl, Nat.le_of_ble_eq_true rfl⟩) (fun r_2 f_2 hp_2 => ?_)
  obtain ⟨rfl, rfl⟩ := hp_2
  refine v_rq rfl ?_
  refine v_astore_n C dX8_told_5 rfl (by decide) rfl ?_
  refine v_aload_n C dX8_told_6 rfl rfl ?_
  refine v_ifnonnull (tgt := 13) C dX8_told_7 (by decide) ?_
  refine v_iload_n C dX8_told_13 rfl rfl ?_
  refine v_tabIn (tgt := 44) (off := 30) C dX8_told_14 (by decide) (by decide) (by decide) (by decide) ?_
  refine v_aload_n C dX8_told_44 rfl rfl ?_
  refine v_getR C dX8_told_45 1 (by decide) hcii (hI _ _ hcelli) g_fl_X8_90 hf1i ?_
  exact v_iret C hr hlk dX8_told_48 (Nat.le_of_ble_eq_true rfl) (Nat.le_of_ble_eq_true rfl) ⟨rfl, rfl⟩

set_option maxHeartbeats 4000000 in
set_option maxRecDepth 100000 in
theorem c_told_1 (l : Launch) (D : va_G) (B : Nat) (K : Nat → ClassId) (f : St) (q : Nat → Nat) (n na : Nat) (g : Nat → Option Nat) (fi : St) (sg : Nat → Sg) (E : Nat → List Ent) (ra : Nat → Nat) (kd : Nat → Int32) (i : Nat) (h0 : f (q 0) = some (.inr (6, [.ref (q 1), .ref (q 2), .ref (q 3), .ref (q 4), .ref (q 5), .ref (q 6), .int (nI n), .int (nI na)]))) (h4 : f (q 4) = some (.inl (K 3, 40, .inr (.inr (.inr (.inr (g))))))) (hn40 : n ≤ 40) (hT : RT K sg E ra kd fi n) (hI : Imm fi f) (hg : ∀ i, i < n → g i = some (ra i)) (hi : i < n) : Kc l D B K yX8_told cX8_told 4 ((some .int)) 50 0 0 [.ref (q 0), .int (nI i), .int 1] f (Qi_ D B (fun r f9 => r = nI (E i).length ∧ f9 = f)) := by
  refine v_met [(0, .ref (q 0)), (1, .int (nI i)), (2, .int 1)] (by decide) (Nat.le_of_ble_eq_true rfl) rfl ?_
  intro p e s m args below meth c C hr hlk hin
  obtain ⟨cii, fsi, hcii, hcelli, hf0i, hf1i, hf2i, hf3i⟩ := RT_hdr (hT.2 i hi).1
  refine v_aload_n C dX8_told_0 rfl rfl ?_
  refine v_iload_n C dX8_told_1 rfl rfl ?_
  refine v_cq (r_V C (c_rangeOf_ok l D B K _ q n na g i (ra i) h0 h4 hi hn40 (hg i hi)) dX8_told_2 h0 rfl g_ml_X8_71 g_im_yX8_rangeOf g_se_X8_yX8_rangeOf_yX8_rangeOf g_in_X8 g_cd_yX8_rangeOf (rn_le (by decide)) (by decide) rfl rfl hdn_yX8_rangeOf (Nat.le_of_ble_eq_true rfl) ⟨Nat.le_of_ble_eq_true rfl, Nat.le_of_ble_eq_true rfl⟩) (fun r_2 f_2 hp_2 => ?_)
  obtain ⟨rfl, rfl⟩ := hp_2
  refine v_rq rfl ?_
  refine v_astore_n C dX8_told_5 rfl (by decide) rfl ?_
  refine v_aload_n C dX8_told_6 rfl rfl ?_
  refine v_ifnonnull (tgt := 13) C dX8_told_7 (by decide) ?_
  refine v_iload_n C dX8_told_13 rfl rfl ?_
  refine v_tabIn (tgt := 49) (off := 35) C dX8_told_14 (by decide) (by decide) (by decide) (by decide) ?_
  refine v_aload_n C dX8_told_49 rfl rfl ?_
  refine v_getR C dX8_told_50 2 (by decide) hcii (hI _ _ hcelli) g_fl_X8_93 hf2i ?_
  exact v_iret C hr hlk dX8_told_53 (Nat.le_of_ble_eq_true rfl) (Nat.le_of_ble_eq_true rfl) ⟨rfl, rfl⟩

set_option maxHeartbeats 4000000 in
set_option maxRecDepth 100000 in
theorem c_told_3 (l : Launch) (D : va_G) (B : Nat) (K : Nat → ClassId) (f : St) (q : Nat → Nat) (n na : Nat) (g : Nat → Option Nat) (fi : St) (sg : Nat → Sg) (E : Nat → List Ent) (ra : Nat → Nat) (kd : Nat → Int32) (i : Nat) (h0 : f (q 0) = some (.inr (6, [.ref (q 1), .ref (q 2), .ref (q 3), .ref (q 4), .ref (q 5), .ref (q 6), .int (nI n), .int (nI na)]))) (h4 : f (q 4) = some (.inl (K 3, 40, .inr (.inr (.inr (.inr (g))))))) (hn40 : n ≤ 40) (hT : RT K sg E ra kd fi n) (hI : Imm fi f) (hg : ∀ i, i < n → g i = some (ra i)) (hi : i < n) : Kc l D B K yX8_told cX8_told 4 ((some .int)) 50 0 0 [.ref (q 0), .int (nI i), .int 3] f (Qi_ D B (fun r f9 => r = nI (E i).length ∧ f9 = f)) := by
  refine v_met [(0, .ref (q 0)), (1, .int (nI i)), (2, .int 3)] (by decide) (Nat.le_of_ble_eq_true rfl) rfl ?_
  intro p e s m args below meth c C hr hlk hin
  obtain ⟨cii, fsi, hcii, hcelli, hf0i, hf1i, hf2i, hf3i⟩ := RT_hdr (hT.2 i hi).1
  refine v_aload_n C dX8_told_0 rfl rfl ?_
  refine v_iload_n C dX8_told_1 rfl rfl ?_
  refine v_cq (r_V C (c_rangeOf_ok l D B K _ q n na g i (ra i) h0 h4 hi hn40 (hg i hi)) dX8_told_2 h0 rfl g_ml_X8_71 g_im_yX8_rangeOf g_se_X8_yX8_rangeOf_yX8_rangeOf g_in_X8 g_cd_yX8_rangeOf (rn_le (by decide)) (by decide) rfl rfl hdn_yX8_rangeOf (Nat.le_of_ble_eq_true rfl) ⟨Nat.le_of_ble_eq_true rfl, Nat.le_of_ble_eq_true rfl⟩) (fun r_2 f_2 hp_2 => ?_)
  obtain ⟨rfl, rfl⟩ := hp_2
  refine v_rq rfl ?_
  refine v_astore_n C dX8_told_5 rfl (by decide) rfl ?_
  refine v_aload_n C dX8_told_6 rfl rfl ?_
  refine v_ifnonnull (tgt := 13) C dX8_told_7 (by decide) ?_
  refine v_iload_n C dX8_told_13 rfl rfl ?_
  refine v_tabIn (tgt := 59) (off := 45) C dX8_told_14 (by decide) (by decide) (by decide) (by decide) ?_
  refine v_aload_n C dX8_told_59 rfl rfl ?_
  refine v_getR C dX8_told_60 2 (by decide) hcii (hI _ _ hcelli) g_fl_X8_93 hf2i ?_
  exact v_iret C hr hlk dX8_told_63 (Nat.le_of_ble_eq_true rfl) (Nat.le_of_ble_eq_true rfl) ⟨rfl, rfl⟩

theorem v_made {p : Program} {l : Launch} {e : Env} {R : Room} {s : State} {m : MethodId} {args : Array Value} {below : List Frame} {meth : Method} {c : Code} {D : va_G} {B nL : Nat} {Q : State → Prop} {ce sl : Nat} {f : St} {lv : Lv} {pc : Nat} {st : List Value} {cc : ByteArray} {own : String} {K : Nat → ClassId} (C : Cx p s m args c cc nL own D B K) {sg : Nat → Sg} {E : Nat → List Ent} {ra : Nat → Nat} {kd : Nat → Int32} {fi : St} {i index : Nat} {rest : List Value} (hd : decode cc pc = .ok (.invokevirtual index, 3)) (hT : RTi K sg E ra kd fi i) (hM : MKi K ra kd fi i) (hI : Imm fi f)
    (g1 : Cond.methodLink own index xR_madeOf ∈ GT) (hR : RN R 1) (hst : st = [Value.ref (ra i)] ++ rest) (hrest : (rest.map fun v => v.category).sum ≤ 8) (hf : ce ≤ R.cells ∧ sl ≤ R.slots)
    (k : V p l e R s m args below meth c D B nL Q ce sl f lv (pc + 3) (.int (nI (ptK (kd i))) :: rest)) : V p l e R s m args below meth c D B nL Q ce sl f lv pc st := by
  have hst2 : st = ([] : List Value).reverse ++ .ref (ra i) :: rest := hst
  obtain ⟨m5, m4, m0, m1⟩ := hM
  rcases hT with ⟨⟨fst, lst, sp, q1, _⟩ | ⟨ar, fs, q1, _⟩, hE⟩ | ⟨j, _, q1, _, hE⟩ | ⟨js, pa, g, _, _, q1, q2, _⟩
  · exact v_ci (r_A (x := xR_madeOf) (owner := RX5) C (c_Single_madeOf l D B K f (ra i)) hd (hI _ _ q1) rfl g1 g_sm_X5_X5_madeOf g_se_X6_X5_madeOf_1728_yX7_madeOf g_im_yX7_madeOf g_in_X7 g_cd_yX7_madeOf (by decide +kernel) hR (by decide) hst2 hdn_xR_madeOf hrest hf) (fun r f9 hp => by obtain ⟨rfl, rfl⟩ := hp; rw [m5 ⟨_, q1⟩] at k; exact k)
  · exact v_ci (r_A (x := xR_madeOf) (owner := RX5) C (c_Single_madeOf l D B K f (ra i)) hd (hI _ _ q1) rfl g1 g_sm_X5_X5_madeOf g_se_X4_X5_madeOf_1728_yX7_madeOf g_im_yX7_madeOf g_in_X7 g_cd_yX7_madeOf (by decide +kernel) hR (by decide) hst2 hdn_xR_madeOf hrest hf) (fun r f9 hp => by obtain ⟨rfl, rfl⟩ := hp; rw [m4 ⟨_, q1⟩] at k; exact k)
  · exact v_ci (r_A (x := xR_madeOf) (owner := RX5) C (c_Back_madeOf l D B K f (ra i)) hd (hI _ _ q1) rfl g1 g_sm_X5_X5_madeOf g_se_X0_X5_madeOf_1728_yX0_madeOf g_im_yX0_madeOf g_in_X0 g_cd_yX0_madeOf (by decide +kernel) hR (by decide) hst2 hdn_xR_madeOf hrest hf) (fun r f9 hp => by obtain ⟨rfl, rfl⟩ := hp; rw [m0 ⟨_, q1⟩] at k; exact k)
  · exact v_ci (r_A (x := xR_madeOf) (owner := RX5) C (c_Beside_madeOf l D B K f (ra i) pa js.length g _ _ _ _ (hI _ _ q1) (hI _ _ q2)) hd (hI _ _ q1) rfl g1 g_sm_X5_X5_madeOf g_se_X1_X5_madeOf_1728_yX1_madeOf g_im_yX1_madeOf g_in_X1 g_cd_yX1_madeOf (by decide +kernel) hR (by decide) hst2 hdn_xR_madeOf hrest hf) (fun r f9 hp => by obtain ⟨rfl, rfl⟩ := hp; rw [← m1 _ _ _ _ _ _ _ q1 q2] at k; exact k)
set_option maxHeartbeats 4000000 in
set_option maxRecDepth 100000 in
theorem c_told_2 (l : Launch) (D : va_G) (B : Nat) (K : Nat → ClassId) (f : St) (q : Nat → Nat) (n na : Nat) (g : Nat → Option Nat) (fi : St) (sg : Nat → Sg) (E : Nat → List Ent) (ra : Nat → Nat) (kd : Nat → Int32) (i : Nat) (h0 : f (q 0) = some (.inr (6, [.ref (q 1), .ref (q 2), .ref (q 3), .ref (q 4), .ref (q 5), .ref (q 6), .int (nI n), .int (nI na)]))) (h4 : f (q 4) = some (.inl (K 3, 40, .inr (.inr (.inr (.inr (g))))))) (hn40 : n ≤ 40) (hT : RT K sg E ra kd fi n) (hI : Imm fi f) (hg : ∀ i, i < n → g i = some (ra i)) (hi : i < n) (hMK : MKi K ra kd fi i) : Kc l D B K yX8_told cX8_told 4 ((some .int)) 50 0 0 [.ref (q 0), .int (nI i), .int 2] f (Qi_ D B (fun r f9 => r = nI (ptK (kd i)) ∧ f9 = f)) := by
  refine v_met [(0, .ref (q 0)), (1, .int (nI i)), (2, .int 2)] (by decide) (Nat.le_of_ble_eq_true rfl) rfl ?_
  intro p e s m args below meth c C hr hlk hin
  obtain ⟨cii, fsi, hcii, hcelli, hf0i, hf1i, hf2i, hf3i⟩ := RT_hdr (hT.2 i hi).1
  refine v_aload_n C dX8_told_0 rfl rfl ?_
  refine v_iload_n C dX8_told_1 rfl rfl ?_
  refine v_cq (r_V C (c_rangeOf_ok l D B K _ q n na g i (ra i) h0 h4 hi hn40 (hg i hi)) dX8_told_2 h0 rfl g_ml_X8_71 g_im_yX8_rangeOf g_se_X8_yX8_rangeOf_yX8_rangeOf g_in_X8 g_cd_yX8_rangeOf (rn_le (by decide)) (by decide) rfl rfl hdn_yX8_rangeOf (Nat.le_of_ble_eq_true rfl) ⟨Nat.le_of_ble_eq_true rfl, Nat.le_of_ble_eq_true rfl⟩) (fun r_2 f_2 hp_2 => ?_)
  obtain ⟨rfl, rfl⟩ := hp_2
  refine v_rq rfl ?_
  refine v_astore_n C dX8_told_5 rfl (by decide) rfl ?_
  refine v_aload_n C dX8_told_6 rfl rfl ?_
  refine v_ifnonnull (tgt := 13) C dX8_told_7 (by decide) ?_
  refine v_iload_n C dX8_told_13 rfl rfl ?_
  refine v_tabIn (tgt := 54) (off := 40) C dX8_told_14 (by decide) (by decide) (by decide) (by decide) ?_
  refine v_aload_n C dX8_told_54 rfl rfl ?_
  refine v_made (i := i) C dX8_told_55 (hT.2 i hi).1 hMK hI g_ml_X8_96 (rn_le (by decide)) rfl (Nat.le_of_ble_eq_true rfl) ⟨Nat.le_refl _, Nat.le_refl _⟩ ?_
  exact v_iret C hr hlk dX8_told_58 (Nat.le_of_ble_eq_true rfl) (Nat.le_of_ble_eq_true rfl) ⟨rfl, rfl⟩

set_option maxHeartbeats 4000000 in
set_option maxRecDepth 100000 in
theorem c_told_out (l : Launch) (D : va_G) (B : Nat) (K : Nat → ClassId) (f : St) (q : Nat → Nat) (n na : Nat) (g : Nat → Option Nat) (fi : St) (sg : Nat → Sg) (E : Nat → List Ent) (ra : Nat → Nat) (kd : Nat → Int32) (i : Nat) (h0 : f (q 0) = some (.inr (6, [.ref (q 1), .ref (q 2), .ref (q 3), .ref (q 4), .ref (q 5), .ref (q 6), .int (nI n), .int (nI na)]))) (h4 : f (q 4) = some (.inl (K 3, 40, .inr (.inr (.inr (.inr (g))))))) (hn40 : n ≤ 40) (hT : RT K sg E ra kd fi n) (hI : Imm fi f) (hg : ∀ i, i < n → g i = some (ra i)) (hi : i < n) (w : Int32) (hw : w.toInt < 0 ∨ 3 < w.toInt) : Kc l D B K yX8_told cX8_told 4 ((some .int)) 50 0 0 [.ref (q 0), .int (nI i), .int w] f (Qi_ D B (fun r f9 => r = -102 ∧ f9 = f)) := by
  refine v_met [(0, .ref (q 0)), (1, .int (nI i)), (2, .int w)] (by decide) (Nat.le_of_ble_eq_true rfl) rfl ?_
  intro p e s m args below meth c C hr hlk hin
  refine v_aload_n C dX8_told_0 rfl rfl ?_
  refine v_iload_n C dX8_told_1 rfl rfl ?_
  refine v_cq (r_V C (c_rangeOf_ok l D B K _ q n na g i (ra i) h0 h4 hi hn40 (hg i hi)) dX8_told_2 h0 rfl g_ml_X8_71 g_im_yX8_rangeOf g_se_X8_yX8_rangeOf_yX8_rangeOf g_in_X8 g_cd_yX8_rangeOf (rn_le (by decide)) (by decide) rfl rfl hdn_yX8_rangeOf (Nat.le_of_ble_eq_true rfl) ⟨Nat.le_of_ble_eq_true rfl, Nat.le_of_ble_eq_true rfl⟩) (fun r_2 f_2 hp_2 => ?_)
  obtain ⟨rfl, rfl⟩ := hp_2
  refine v_rq rfl ?_
  refine v_astore_n C dX8_told_5 rfl (by decide) rfl ?_
  refine v_aload_n C dX8_told_6 rfl rfl ?_
  refine v_ifnonnull (tgt := 13) C dX8_told_7 (by decide) ?_
  refine v_iload_n C dX8_told_13 rfl rfl ?_
  refine v_tabOut (tgt := 64) C dX8_told_14 hw (by decide) ?_
  refine v_bipush (v := (-102)) C dX8_told_64 (by decide) ?_
  exact v_iret C hr hlk dX8_told_66 (Nat.le_of_ble_eq_true rfl) (Nat.le_of_ble_eq_true rfl) ⟨rfl, rfl⟩

set_option maxHeartbeats 4000000 in
set_option maxRecDepth 100000 in
theorem c_has_bad (l : Launch) (D : va_G) (B : Nat) (K : Nat → ClassId) (f : St) (q : Nat → Nat) (n na : Nat) (x : Int32) (h0 : f (q 0) = some (.inr (6, [.ref (q 1), .ref (q 2), .ref (q 3), .ref (q 4), .ref (q 5), .ref (q 6), .int (nI n), .int (nI na)]))) (hn40 : n ≤ 40) (hx : x < 0 ∨ nI n ≤ x) : Kc l D B K yX8_has cX8_has 3 ((some .int)) 50 0 0 [.ref (q 0), .int x] f (Qi_ D B (fun r f9 => r = -101 ∧ f9 = f)) := by
  refine v_met [(0, .ref (q 0)), (1, .int x)] (by decide) (Nat.le_of_ble_eq_true rfl) rfl ?_
  intro p e s m args below meth c C hr hlk hin
  refine v_aload_n C dX8_has_0 rfl rfl ?_
  refine v_iload_n C dX8_has_1 rfl rfl ?_
  refine v_cq (r_V C (c_rangeOf_bad l D B K _ q n na x h0 hx hn40) dX8_has_2 h0 rfl g_ml_X8_71 g_im_yX8_rangeOf g_se_X8_yX8_rangeOf_yX8_rangeOf g_in_X8 g_cd_yX8_rangeOf (rn_le (by decide)) (by decide) rfl rfl hdn_yX8_rangeOf (Nat.le_of_ble_eq_true rfl) ⟨Nat.le_of_ble_eq_true rfl, Nat.le_of_ble_eq_true rfl⟩) (fun r_2 f_2 hp_2 => ?_)
  obtain ⟨rfl, rfl⟩ := hp_2
  refine v_rn rfl ?_
  refine v_astore_nN C dX8_has_5 rfl (by decide) rfl ?_
  refine v_aload_nN C dX8_has_6 rfl rfl ?_
  refine v_ifnonnullN C dX8_has_7 ?_
  refine v_bipush (v := (-101)) C dX8_has_10 (by decide) ?_
  exact v_iret C hr hlk dX8_has_12 (Nat.le_of_ble_eq_true rfl) (Nat.le_of_ble_eq_true rfl) ⟨rfl, rfl⟩

set_option maxHeartbeats 4000000 in
set_option maxRecDepth 100000 in
theorem c_has_yes (l : Launch) (D : va_G) (B : Nat) (K : Nat → ClassId) (f : St) (q : Nat → Nat) (n na : Nat) (g : Nat → Option Nat) (fi : St) (sg : Nat → Sg) (E : Nat → List Ent) (ra : Nat → Nat) (kd : Nat → Int32) (i : Nat) (t x y z : Int32) (h : Nat → Int64) (h0 : f (q 0) = some (.inr (6, [.ref (q 1), .ref (q 2), .ref (q 3), .ref (q 4), .ref (q 5), .ref (q 6), .int (nI n), .int (nI na)]))) (h4 : f (q 4) = some (.inl (K 3, 40, .inr (.inr (.inr (.inr (g))))))) (hn40 : n ≤ 40) (hT : RT K sg E ra kd fi n) (hI : Imm fi f) (hg : ∀ i, i < n → g i = some (ra i)) (h1 : f (q 1) = some (.inr (2, [.ref (q 7)]))) (h7 : f (q 7) = some (.inl (K 1, 8, .inr (.inl h)))) (h3 : f (q 3) = some (.inr (3, [.int t, .int x, .int y, .int z]))) (hi : i < n) (hm : missE sg h (E i) 0 = none) : Kc l D B K yX8_has cX8_has 3 ((some .int)) 50 0 0 [.ref (q 0), .int (nI i)] f (Qi_ D B (fun r f9 => r = 1 ∧ f9 = f)) := by
  refine v_met [(0, .ref (q 0)), (1, .int (nI i))] (by decide) (Nat.le_of_ble_eq_true rfl) rfl ?_
  intro p e s m args below meth c C hr hlk hin
  refine v_aload_n C dX8_has_0 rfl rfl ?_
  refine v_iload_n C dX8_has_1 rfl rfl ?_
  refine v_cq (r_V C (c_rangeOf_ok l D B K _ q n na g i (ra i) h0 h4 hi hn40 (hg i hi)) dX8_has_2 h0 rfl g_ml_X8_71 g_im_yX8_rangeOf g_se_X8_yX8_rangeOf_yX8_rangeOf g_in_X8 g_cd_yX8_rangeOf (rn_le (by decide)) (by decide) rfl rfl hdn_yX8_rangeOf (Nat.le_of_ble_eq_true rfl) ⟨Nat.le_of_ble_eq_true rfl, Nat.le_of_ble_eq_true rfl⟩) (fun r_2 f_2 hp_2 => ?_)
  obtain ⟨rfl, rfl⟩ := hp_2
  refine v_rq rfl ?_
  refine v_astore_n C dX8_has_5 rfl (by decide) rfl ?_
  refine v_aload_n C dX8_has_6 rfl rfl ?_
  refine v_ifnonnull (tgt := 13) C dX8_has_7 (by decide) ?_
  refine v_aload_n C dX8_has_13 rfl rfl ?_
  refine v_aload_n C dX8_has_14 rfl rfl ?_
  refine v_cl (r_V C (c_placeOfHand l D B K _ q n na fi sg E ra kd i t x y z h h0 hT hn40 hi hI h1 h7 h3) dX8_has_15 h0 rfl g_ml_X8_118 g_im_yX8_placeOfHand g_se_X8_yX8_placeOfHand_yX8_placeOfHand g_in_X8 g_cd_yX8_placeOfHand (rn_le (by decide)) (by decide) rfl rfl hdn_yX8_placeOfHand (Nat.le_of_ble_eq_true rfl) ⟨Nat.le_of_ble_eq_true rfl, Nat.le_of_ble_eq_true rfl⟩) (fun r_15 f_15 hp_15 => ?_)
  obtain ⟨rfl, hf9⟩ := hp_15
  rw [hm] at hf9
  have hf9 := hf9.symm
  subst hf9
  refine v_rl (show plR sg h (E i) 0 = sat (idxE sg h (E i) 0 0) by unfold plR; rw [hm]) ?_
  refine v_ldc2 C dX8_has_18 g_kl_X8_122 ?_
  refine v_lc_ne (tgt := 29) C dX8_has_21 dX8_has_22 (by decide) (fun c_21 => ?_) (fun c_21 => absurd c_21 (sat_n2 _))
  refine v_iconst (v := 1) C dX8_has_29 (by decide) ?_
  exact v_iret C hr hlk dX8_has_30 (Nat.le_of_ble_eq_true rfl) (Nat.le_of_ble_eq_true rfl) ⟨rfl, rfl⟩

set_option maxHeartbeats 4000000 in
set_option maxRecDepth 100000 in
theorem c_has_no (l : Launch) (D : va_G) (B : Nat) (K : Nat → ClassId) (f : St) (q : Nat → Nat) (n na : Nat) (g : Nat → Option Nat) (fi : St) (sg : Nat → Sg) (E : Nat → List Ent) (ra : Nat → Nat) (kd : Nat → Int32) (i : Nat) (t x y z : Int32) (h : Nat → Int64) (h0 : f (q 0) = some (.inr (6, [.ref (q 1), .ref (q 2), .ref (q 3), .ref (q 4), .ref (q 5), .ref (q 6), .int (nI n), .int (nI na)]))) (h4 : f (q 4) = some (.inl (K 3, 40, .inr (.inr (.inr (.inr (g))))))) (hn40 : n ≤ 40) (hT : RT K sg E ra kd fi n) (hI : Imm fi f) (hg : ∀ i, i < n → g i = some (ra i)) (h1 : f (q 1) = some (.inr (2, [.ref (q 7)]))) (h7 : f (q 7) = some (.inl (K 1, 8, .inr (.inl h)))) (h3 : f (q 3) = some (.inr (3, [.int t, .int x, .int y, .int z]))) (hi : i < n) (m9 : Nat × Ent) (hm : missE sg h (E i) 0 = some m9) : Kc l D B K yX8_has cX8_has 3 ((some .int)) 50 0 0 [.ref (q 0), .int (nI i)] f (Qi_ D B (fun r f9 => r = 0 ∧ f9 = plF f (q 3) t 0 (some m9))) := by
  refine v_met [(0, .ref (q 0)), (1, .int (nI i))] (by decide) (Nat.le_of_ble_eq_true rfl) rfl ?_
  intro p e s m args below meth c C hr hlk hin
  refine v_aload_n C dX8_has_0 rfl rfl ?_
  refine v_iload_n C dX8_has_1 rfl rfl ?_
  refine v_cq (r_V C (c_rangeOf_ok l D B K _ q n na g i (ra i) h0 h4 hi hn40 (hg i hi)) dX8_has_2 h0 rfl g_ml_X8_71 g_im_yX8_rangeOf g_se_X8_yX8_rangeOf_yX8_rangeOf g_in_X8 g_cd_yX8_rangeOf (rn_le (by decide)) (by decide) rfl rfl hdn_yX8_rangeOf (Nat.le_of_ble_eq_true rfl) ⟨Nat.le_of_ble_eq_true rfl, Nat.le_of_ble_eq_true rfl⟩) (fun r_2 f_2 hp_2 => ?_)
  obtain ⟨rfl, rfl⟩ := hp_2
  refine v_rq rfl ?_
  refine v_astore_n C dX8_has_5 rfl (by decide) rfl ?_
  refine v_aload_n C dX8_has_6 rfl rfl ?_
  refine v_ifnonnull (tgt := 13) C dX8_has_7 (by decide) ?_
  refine v_aload_n C dX8_has_13 rfl rfl ?_
  refine v_aload_n C dX8_has_14 rfl rfl ?_
  refine v_cl (r_V C (c_placeOfHand l D B K _ q n na fi sg E ra kd i t x y z h h0 hT hn40 hi hI h1 h7 h3) dX8_has_15 h0 rfl g_ml_X8_118 g_im_yX8_placeOfHand g_se_X8_yX8_placeOfHand_yX8_placeOfHand g_in_X8 g_cd_yX8_placeOfHand (rn_le (by decide)) (by decide) rfl rfl hdn_yX8_placeOfHand (Nat.le_of_ble_eq_true rfl) ⟨Nat.le_of_ble_eq_true rfl, Nat.le_of_ble_eq_true rfl⟩) (fun r_15 f_15 hp_15 => ?_)
  obtain ⟨rfl, hf9⟩ := hp_15
  rw [hm] at hf9
  refine v_rl (show plR sg h (E i) 0 = -2 by unfold plR; rw [hm]) ?_
  refine v_ldc2 C dX8_has_18 g_kl_X8_122 ?_
  refine v_lc_ne (tgt := 29) C dX8_has_21 dX8_has_22 (by decide) (fun c_21 => absurd rfl c_21) (fun c_21 => ?_)
  refine v_iconst (v := 0) C dX8_has_25 (by decide) ?_
  refine v_goto (tgt := 30) C dX8_has_26 (by decide) ?_
  exact v_iret C hr hlk dX8_has_30 (Nat.le_of_ble_eq_true rfl) (Nat.le_of_ble_eq_true rfl) ⟨rfl, hf9⟩

def msC (w t x y z : Int32) : Int32 := if (upC w (2 : Int32)) = (0 : Int32) then ((-102 : Int32)) else if t = (0 : Int32) then ((-103 : Int32)) else if w = (0 : Int32) then (x) else if w = (1 : Int32) then (y) else (z)
set_option maxHeartbeats 4000000 in
set_option maxRecDepth 100000 in
theorem c_miss (l : Launch) (D : va_G) (B : Nat) (K : Nat → ClassId) (f : St) (q : Nat → Nat) (n na : Nat) (w t x y z : Int32) (h0 : f (q 0) = some (.inr (6, [.ref (q 1), .ref (q 2), .ref (q 3), .ref (q 4), .ref (q 5), .ref (q 6), .int (nI n), .int (nI na)]))) (h3 : f (q 3) = some (.inr (3, [.int t, .int x, .int y, .int z]))) : Kc l D B K yX8_miss cX8_miss 2 ((some .int)) 50 0 0 [.ref (q 0), .int w] f (Qi_ D B (fun r f9 => r = msC w t x y z ∧ f9 = f)) := by
  refine v_met [(0, .ref (q 0)), (1, .int w)] (by decide) (Nat.le_of_ble_eq_true rfl) rfl ?_
  intro p e s m args below meth c C hr hlk hin
  refine v_iload_n C dX8_miss_0 rfl rfl ?_
  refine v_iconst (v := 2) C dX8_miss_1 (by decide) ?_
  refine v_ci (r_S C (c_isUpTo l D B K _ _ _) dX8_miss_2 g_ml_X8_52 g_st_yX8_isUpTo g_in_X8 g_cd_yX8_isUpTo (rn_le (by decide)) (by decide) rfl hdn_yX8_isUpTo (Nat.le_of_ble_eq_true rfl) ⟨Nat.le_of_ble_eq_true rfl, Nat.le_of_ble_eq_true rfl⟩) (fun r_2 f_2 hp_2 => ?_)
  obtain ⟨rfl, rfl⟩ := hp_2
  refine v_if_ne (tgt := 11) C dX8_miss_5 (by decide) (fun c_5 => ?_) (fun c_5 => ?_)
  · refine v_aload_n C dX8_miss_11 rfl rfl ?_
    refine v_get C dX8_miss_12 2 h0 rfl in_X8 (by decide) g_fl_X8_22 (fun _ h9 => h9) rfl ?_
    refine v_get C dX8_miss_15 0 h3 rfl in_X3 (by decide) g_fl_X8_145 (fun _ h9 => h9) rfl ?_
    refine v_if_ne (tgt := 24) C dX8_miss_18 (by decide) (fun c_18 => ?_) (fun c_18 => ?_)
    · refine v_iload_n C dX8_miss_24 rfl rfl ?_
      refine v_if_ne (tgt := 36) C dX8_miss_25 (by decide) (fun c_25 => ?_) (fun c_25 => ?_)
      · refine v_iload_n C dX8_miss_36 rfl rfl ?_
        refine v_iconst (v := 1) C dX8_miss_37 (by decide) ?_
        refine v_icmp_ne (tgt := 51) C dX8_miss_38 (by decide) (fun c_38 => ?_) (fun c_38 => ?_)
        · refine v_aload_n C dX8_miss_51 rfl rfl ?_
          refine v_get C dX8_miss_52 2 h0 rfl in_X8 (by decide) g_fl_X8_22 (fun _ h9 => h9) rfl ?_
          refine v_get C dX8_miss_55 3 h3 rfl in_X3 (by decide) g_fl_X8_154 (fun _ h9 => h9) rfl ?_
          exact v_iret C hr hlk dX8_miss_58 (Nat.le_of_ble_eq_true rfl) (Nat.le_of_ble_eq_true rfl) ⟨by unfold msC; rw [if_neg c_5, if_neg c_18, if_neg c_25, if_neg c_38], rfl⟩
        · refine v_aload_n C dX8_miss_41 rfl rfl ?_
          refine v_get C dX8_miss_42 2 h0 rfl in_X8 (by decide) g_fl_X8_22 (fun _ h9 => h9) rfl ?_
          refine v_get C dX8_miss_45 2 h3 rfl in_X3 (by decide) g_fl_X8_151 (fun _ h9 => h9) rfl ?_
          refine v_goto (tgt := 58) C dX8_miss_48 (by decide) ?_
          exact v_iret C hr hlk dX8_miss_58 (Nat.le_of_ble_eq_true rfl) (Nat.le_of_ble_eq_true rfl) ⟨by unfold msC; rw [if_neg c_5, if_neg c_18, if_neg c_25, if_pos c_38], rfl⟩
      · refine v_aload_n C dX8_miss_28 rfl rfl ?_
        refine v_get C dX8_miss_29 2 h0 rfl in_X8 (by decide) g_fl_X8_22 (fun _ h9 => h9) rfl ?_
        refine v_get C dX8_miss_32 1 h3 rfl in_X3 (by decide) g_fl_X8_148 (fun _ h9 => h9) rfl ?_
        exact v_iret C hr hlk dX8_miss_35 (Nat.le_of_ble_eq_true rfl) (Nat.le_of_ble_eq_true rfl) ⟨by unfold msC; rw [if_neg c_5, if_neg c_18, if_pos c_25], rfl⟩
    · refine v_bipush (v := (-103)) C dX8_miss_21 (by decide) ?_
      exact v_iret C hr hlk dX8_miss_23 (Nat.le_of_ble_eq_true rfl) (Nat.le_of_ble_eq_true rfl) ⟨by unfold msC; rw [if_neg c_5, if_pos c_18], rfl⟩
  · refine v_bipush (v := (-102)) C dX8_miss_8 (by decide) ?_
    exact v_iret C hr hlk dX8_miss_10 (Nat.le_of_ble_eq_true rfl) (Nat.le_of_ble_eq_true rfl) ⟨by unfold msC; rw [if_pos c_5], rfl⟩

set_option maxHeartbeats 4000000 in
set_option maxRecDepth 100000 in
theorem c_within_bad00 (l : Launch) (D : va_G) (B : Nat) (K : Nat → ClassId) (f : St) (q : Nat → Nat) (n na : Nat) (g : Nat → Option Nat) (fi : St) (sg : Nat → Sg) (E : Nat → List Ent) (ra : Nat → Nat) (kd : Nat → Int32) (x : Int32) (x2 : Int32) (h0 : f (q 0) = some (.inr (6, [.ref (q 1), .ref (q 2), .ref (q 3), .ref (q 4), .ref (q 5), .ref (q 6), .int (nI n), .int (nI na)]))) (h4 : f (q 4) = some (.inl (K 3, 40, .inr (.inr (.inr (.inr (g))))))) (hn40 : n ≤ 40) (hT : RT K sg E ra kd fi n) (hI : Imm fi f) (hg : ∀ i, i < n → g i = some (ra i)) (hx : x < 0 ∨ nI n ≤ x) (hx2 : x2 < 0 ∨ nI n ≤ x2) : Kc l D B K yX8_within cX8_within 5 ((some .int)) 50 0 0 [.ref (q 0), .int x, .int x2] f (Qi_ D B (fun r f9 => r = -101 ∧ f9 = f)) := by
  refine v_met [(0, .ref (q 0)), (1, .int x), (2, .int x2)] (by decide) (Nat.le_of_ble_eq_true rfl) rfl ?_
  intro p e s m args below meth c C hr hlk hin
  refine v_aload_n C dX8_within_0 rfl rfl ?_
  refine v_iload_n C dX8_within_1 rfl rfl ?_
  refine v_cq (r_V C (c_rangeOf_bad l D B K _ q n na x h0 hx hn40) dX8_within_2 h0 rfl g_ml_X8_71 g_im_yX8_rangeOf g_se_X8_yX8_rangeOf_yX8_rangeOf g_in_X8 g_cd_yX8_rangeOf (rn_le (by decide)) (by decide) rfl rfl hdn_yX8_rangeOf (Nat.le_of_ble_eq_true rfl) ⟨Nat.le_of_ble_eq_true rfl, Nat.le_of_ble_eq_true rfl⟩) (fun r_2 f_2 hp_2 => ?_)
  obtain ⟨rfl, rfl⟩ := hp_2
  refine v_rn rfl ?_
  refine v_astore_nN C dX8_within_5 rfl (by decide) rfl ?_
  refine v_aload_n C dX8_within_6 rfl rfl ?_
  refine v_iload_n C dX8_within_7 rfl rfl ?_
  refine v_cq (r_V C (c_rangeOf_bad l D B K _ q n na x2 h0 hx2 hn40) dX8_within_8 h0 rfl g_ml_X8_71 g_im_yX8_rangeOf g_se_X8_yX8_rangeOf_yX8_rangeOf g_in_X8 g_cd_yX8_rangeOf (rn_le (by decide)) (by decide) rfl rfl hdn_yX8_rangeOf (Nat.le_of_ble_eq_true rfl) ⟨Nat.le_of_ble_eq_true rfl, Nat.le_of_ble_eq_true rfl⟩) (fun r_8 f_8 hp_8 => ?_)
  obtain ⟨rfl, rfl⟩ := hp_8
  refine v_rn rfl ?_
  refine v_astoreN C dX8_within_11 (by decide) rfl ?_
  refine v_aload_nN C dX8_within_13 rfl rfl ?_
  refine v_ifnullN (tgt := 22) C dX8_within_14 (by decide) ?_
  refine v_bipush (v := (-101)) C dX8_within_22 (by decide) ?_
  exact v_iret C hr hlk dX8_within_24 (Nat.le_of_ble_eq_true rfl) (Nat.le_of_ble_eq_true rfl) ⟨rfl, rfl⟩

set_option maxHeartbeats 4000000 in
set_option maxRecDepth 100000 in
theorem c_within_bad01 (l : Launch) (D : va_G) (B : Nat) (K : Nat → ClassId) (f : St) (q : Nat → Nat) (n na : Nat) (g : Nat → Option Nat) (fi : St) (sg : Nat → Sg) (E : Nat → List Ent) (ra : Nat → Nat) (kd : Nat → Int32) (x : Int32) (j : Nat) (h0 : f (q 0) = some (.inr (6, [.ref (q 1), .ref (q 2), .ref (q 3), .ref (q 4), .ref (q 5), .ref (q 6), .int (nI n), .int (nI na)]))) (h4 : f (q 4) = some (.inl (K 3, 40, .inr (.inr (.inr (.inr (g))))))) (hn40 : n ≤ 40) (hT : RT K sg E ra kd fi n) (hI : Imm fi f) (hg : ∀ i, i < n → g i = some (ra i)) (hx : x < 0 ∨ nI n ≤ x) (hj : j < n) : Kc l D B K yX8_within cX8_within 5 ((some .int)) 50 0 0 [.ref (q 0), .int x, .int (nI j)] f (Qi_ D B (fun r f9 => r = -101 ∧ f9 = f)) := by
  refine v_met [(0, .ref (q 0)), (1, .int x), (2, .int (nI j))] (by decide) (Nat.le_of_ble_eq_true rfl) rfl ?_
  intro p e s m args below meth c C hr hlk hin
  refine v_aload_n C dX8_within_0 rfl rfl ?_
  refine v_iload_n C dX8_within_1 rfl rfl ?_
  refine v_cq (r_V C (c_rangeOf_bad l D B K _ q n na x h0 hx hn40) dX8_within_2 h0 rfl g_ml_X8_71 g_im_yX8_rangeOf g_se_X8_yX8_rangeOf_yX8_rangeOf g_in_X8 g_cd_yX8_rangeOf (rn_le (by decide)) (by decide) rfl rfl hdn_yX8_rangeOf (Nat.le_of_ble_eq_true rfl) ⟨Nat.le_of_ble_eq_true rfl, Nat.le_of_ble_eq_true rfl⟩) (fun r_2 f_2 hp_2 => ?_)
  obtain ⟨rfl, rfl⟩ := hp_2
  refine v_rn rfl ?_
  refine v_astore_nN C dX8_within_5 rfl (by decide) rfl ?_
  refine v_aload_n C dX8_within_6 rfl rfl ?_
  refine v_iload_n C dX8_within_7 rfl rfl ?_
  refine v_cq (r_V C (c_rangeOf_ok l D B K _ q n na g j (ra j) h0 h4 hj hn40 (hg j hj)) dX8_within_8 h0 rfl g_ml_X8_71 g_im_yX8_rangeOf g_se_X8_yX8_rangeOf_yX8_rangeOf g_in_X8 g_cd_yX8_rangeOf (rn_le (by decide)) (by decide) rfl rfl hdn_yX8_rangeOf (Nat.le_of_ble_eq_true rfl) ⟨Nat.le_of_ble_eq_true rfl, Nat.le_of_ble_eq_true rfl⟩) (fun r_8 f_8 hp_8 => ?_)
  obtain ⟨rfl, rfl⟩ := hp_8
  refine v_rq rfl ?_
  refine v_astore C dX8_within_11 (by decide) rfl ?_
  refine v_aload_nN C dX8_within_13 rfl rfl ?_
  refine v_ifnullN (tgt := 22) C dX8_within_14 (by decide) ?_
  refine v_bipush (v := (-101)) C dX8_within_22 (by decide) ?_
  exact v_iret C hr hlk dX8_within_24 (Nat.le_of_ble_eq_true rfl) (Nat.le_of_ble_eq_true rfl) ⟨rfl, rfl⟩

set_option maxHeartbeats 4000000 in
set_option maxRecDepth 100000 in
theorem c_within_bad10 (l : Launch) (D : va_G) (B : Nat) (K : Nat → ClassId) (f : St) (q : Nat → Nat) (n na : Nat) (g : Nat → Option Nat) (fi : St) (sg : Nat → Sg) (E : Nat → List Ent) (ra : Nat → Nat) (kd : Nat → Int32) (i : Nat) (x2 : Int32) (h0 : f (q 0) = some (.inr (6, [.ref (q 1), .ref (q 2), .ref (q 3), .ref (q 4), .ref (q 5), .ref (q 6), .int (nI n), .int (nI na)]))) (h4 : f (q 4) = some (.inl (K 3, 40, .inr (.inr (.inr (.inr (g))))))) (hn40 : n ≤ 40) (hT : RT K sg E ra kd fi n) (hI : Imm fi f) (hg : ∀ i, i < n → g i = some (ra i)) (hi : i < n) (hx2 : x2 < 0 ∨ nI n ≤ x2) : Kc l D B K yX8_within cX8_within 5 ((some .int)) 50 0 0 [.ref (q 0), .int (nI i), .int x2] f (Qi_ D B (fun r f9 => r = -101 ∧ f9 = f)) := by
  refine v_met [(0, .ref (q 0)), (1, .int (nI i)), (2, .int x2)] (by decide) (Nat.le_of_ble_eq_true rfl) rfl ?_
  intro p e s m args below meth c C hr hlk hin
  refine v_aload_n C dX8_within_0 rfl rfl ?_
  refine v_iload_n C dX8_within_1 rfl rfl ?_
  refine v_cq (r_V C (c_rangeOf_ok l D B K _ q n na g i (ra i) h0 h4 hi hn40 (hg i hi)) dX8_within_2 h0 rfl g_ml_X8_71 g_im_yX8_rangeOf g_se_X8_yX8_rangeOf_yX8_rangeOf g_in_X8 g_cd_yX8_rangeOf (rn_le (by decide)) (by decide) rfl rfl hdn_yX8_rangeOf (Nat.le_of_ble_eq_true rfl) ⟨Nat.le_of_ble_eq_true rfl, Nat.le_of_ble_eq_true rfl⟩) (fun r_2 f_2 hp_2 => ?_)
  obtain ⟨rfl, rfl⟩ := hp_2
  refine v_rq rfl ?_
  refine v_astore_n C dX8_within_5 rfl (by decide) rfl ?_
  refine v_aload_n C dX8_within_6 rfl rfl ?_
  refine v_iload_n C dX8_within_7 rfl rfl ?_
  refine v_cq (r_V C (c_rangeOf_bad l D B K _ q n na x2 h0 hx2 hn40) dX8_within_8 h0 rfl g_ml_X8_71 g_im_yX8_rangeOf g_se_X8_yX8_rangeOf_yX8_rangeOf g_in_X8 g_cd_yX8_rangeOf (rn_le (by decide)) (by decide) rfl rfl hdn_yX8_rangeOf (Nat.le_of_ble_eq_true rfl) ⟨Nat.le_of_ble_eq_true rfl, Nat.le_of_ble_eq_true rfl⟩) (fun r_8 f_8 hp_8 => ?_)
  obtain ⟨rfl, rfl⟩ := hp_8
  refine v_rn rfl ?_
  refine v_astoreN C dX8_within_11 (by decide) rfl ?_
  refine v_aload_n C dX8_within_13 rfl rfl ?_
  refine v_ifnull C dX8_within_14 ?_
  refine v_aloadN C dX8_within_17 rfl ?_
  refine v_ifnonnullN C dX8_within_19 ?_
  refine v_bipush (v := (-101)) C dX8_within_22 (by decide) ?_
  exact v_iret C hr hlk dX8_within_24 (Nat.le_of_ble_eq_true rfl) (Nat.le_of_ble_eq_true rfl) ⟨rfl, rfl⟩

set_option maxHeartbeats 4000000 in
set_option maxRecDepth 100000 in
theorem c_within_ok (l : Launch) (D : va_G) (B : Nat) (K : Nat → ClassId) (f : St) (q : Nat → Nat) (n na : Nat) (g : Nat → Option Nat) (fi : St) (sg : Nat → Sg) (E : Nat → List Ent) (ra : Nat → Nat) (kd : Nat → Int32) (i j : Nat) (h0 : f (q 0) = some (.inr (6, [.ref (q 1), .ref (q 2), .ref (q 3), .ref (q 4), .ref (q 5), .ref (q 6), .int (nI n), .int (nI na)]))) (h4 : f (q 4) = some (.inl (K 3, 40, .inr (.inr (.inr (.inr (g))))))) (hn40 : n ≤ 40) (hT : RT K sg E ra kd fi n) (hI : Imm fi f) (hg : ∀ i, i < n → g i = some (ra i)) (hi : i < n) (hj : j < n) : Kc l D B K yX8_within cX8_within 5 ((some .int)) 50 0 0 [.ref (q 0), .int (nI i), .int (nI j)] f (Qi_ D B (fun r f9 => r = bI (wiS sg (E i) (E j)) ∧ f9 = f)) := by
  refine v_met [(0, .ref (q 0)), (1, .int (nI i)), (2, .int (nI j))] (by decide) (Nat.le_of_ble_eq_true rfl) rfl ?_
  intro p e s m args below meth c C hr hlk hin
  refine v_aload_n C dX8_within_0 rfl rfl ?_
  refine v_iload_n C dX8_within_1 rfl rfl ?_
  refine v_cq (r_V C (c_rangeOf_ok l D B K _ q n na g i (ra i) h0 h4 hi hn40 (hg i hi)) dX8_within_2 h0 rfl g_ml_X8_71 g_im_yX8_rangeOf g_se_X8_yX8_rangeOf_yX8_rangeOf g_in_X8 g_cd_yX8_rangeOf (rn_le (by decide)) (by decide) rfl rfl hdn_yX8_rangeOf (Nat.le_of_ble_eq_true rfl) ⟨Nat.le_of_ble_eq_true rfl, Nat.le_of_ble_eq_true rfl⟩) (fun r_2 f_2 hp_2 => ?_)
  obtain ⟨rfl, rfl⟩ := hp_2
  refine v_rq rfl ?_
  refine v_astore_n C dX8_within_5 rfl (by decide) rfl ?_
  refine v_aload_n C dX8_within_6 rfl rfl ?_
  refine v_iload_n C dX8_within_7 rfl rfl ?_
  refine v_cq (r_V C (c_rangeOf_ok l D B K _ q n na g j (ra j) h0 h4 hj hn40 (hg j hj)) dX8_within_8 h0 rfl g_ml_X8_71 g_im_yX8_rangeOf g_se_X8_yX8_rangeOf_yX8_rangeOf g_in_X8 g_cd_yX8_rangeOf (rn_le (by decide)) (by decide) rfl rfl hdn_yX8_rangeOf (Nat.le_of_ble_eq_true rfl) ⟨Nat.le_of_ble_eq_true rfl, Nat.le_of_ble_eq_true rfl⟩) (fun r_8 f_8 hp_8 => ?_)
  obtain ⟨rfl, rfl⟩ := hp_8
  refine v_rq rfl ?_
  refine v_astore C dX8_within_11 (by decide) rfl ?_
  refine v_aload_n C dX8_within_13 rfl rfl ?_
  refine v_ifnull C dX8_within_14 ?_
  refine v_aload C dX8_within_17 rfl ?_
  refine v_ifnonnull (tgt := 25) C dX8_within_19 (by decide) ?_
  refine v_aload_n C dX8_within_25 rfl rfl ?_
  refine v_aload C dX8_within_26 rfl ?_
  refine v_ci (r_S C (c_liesWithin l D B K _ sg E ra kd fi n i j hT hn40 hi hj hI) dX8_within_28 g_ml_X8_157 g_st_yX8_liesWithin g_in_X8 g_cd_yX8_liesWithin (rn_le (by decide)) (by decide) rfl hdn_yX8_liesWithin (Nat.le_of_ble_eq_true rfl) ⟨Nat.le_of_ble_eq_true rfl, Nat.le_of_ble_eq_true rfl⟩) (fun r_28 f_28 hp_28 => ?_)
  obtain ⟨rfl, rfl⟩ := hp_28
  cases hw : wiS sg (E i) (E j) with
  | true =>
    refine v_if_eq (tgt := 38) C dX8_within_31 (by decide) (fun c_31 => absurd c_31 (by decide)) (fun c_31 => ?_)
    refine v_iconst (v := 1) C dX8_within_34 (by decide) ?_
    refine v_goto (tgt := 39) C dX8_within_35 (by decide) ?_
    exact v_iret C hr hlk dX8_within_39 (Nat.le_of_ble_eq_true rfl) (Nat.le_of_ble_eq_true rfl) ⟨rfl, rfl⟩
  | false =>
    refine v_if_eq (tgt := 38) C dX8_within_31 (by decide) (fun c_31 => ?_) (fun c_31 => absurd rfl c_31)
    refine v_iconst (v := 0) C dX8_within_38 (by decide) ?_
    exact v_iret C hr hlk dX8_within_39 (Nat.le_of_ble_eq_true rfl) (Nat.le_of_ble_eq_true rfl) ⟨rfl, rfl⟩

set_option maxHeartbeats 4000000 in
set_option maxRecDepth 100000 in
theorem c_over_bad (l : Launch) (D : va_G) (B : Nat) (K : Nat → ClassId) (f : St) (q : Nat → Nat) (n na : Nat) (x : Int32) (h0 : f (q 0) = some (.inr (6, [.ref (q 1), .ref (q 2), .ref (q 3), .ref (q 4), .ref (q 5), .ref (q 6), .int (nI n), .int (nI na)]))) (hna : na ≤ 6) (hx : x < 0 ∨ nI na ≤ x) : Kc l D B K yX8_over cX8_over 3 ((some .int)) 50 0 0 [.ref (q 0), .int x] f (Qi_ D B (fun r f9 => r = -101 ∧ f9 = f)) := by
  refine v_met [(0, .ref (q 0)), (1, .int x)] (by decide) (Nat.le_of_ble_eq_true rfl) rfl ?_
  intro p e s m args below meth c C hr hlk hin
  refine v_aload_n C dX8_over_0 rfl rfl ?_
  refine v_iload_n C dX8_over_1 rfl rfl ?_
  refine v_cq (r_V C (c_baseOf_bad l D B K _ q n na x h0 hx hna) dX8_over_2 h0 rfl g_ml_X8_178 g_im_yX8_baseOf g_se_X8_yX8_baseOf_yX8_baseOf g_in_X8 g_cd_yX8_baseOf (rn_le (by decide)) (by decide) rfl rfl hdn_yX8_baseOf (Nat.le_of_ble_eq_true rfl) ⟨Nat.le_of_ble_eq_true rfl, Nat.le_of_ble_eq_true rfl⟩) (fun r_2 f_2 hp_2 => ?_)
  obtain ⟨rfl, rfl⟩ := hp_2
  refine v_rn rfl ?_
  refine v_astore_nN C dX8_over_5 rfl (by decide) rfl ?_
  refine v_aload_nN C dX8_over_6 rfl rfl ?_
  refine v_ifnonnullN C dX8_over_7 ?_
  refine v_bipush (v := (-101)) C dX8_over_10 (by decide) ?_
  refine v_goto (tgt := 19) C dX8_over_12 (by decide) ?_
  exact v_iret C hr hlk dX8_over_19 (Nat.le_of_ble_eq_true rfl) (Nat.le_of_ble_eq_true rfl) ⟨rfl, rfl⟩

set_option maxHeartbeats 4000000 in
set_option maxRecDepth 100000 in
theorem c_over_ok (l : Launch) (D : va_G) (B : Nat) (K : Nat → ClassId) (f : St) (q : Nat → Nat) (n na : Nat) (gb : Nat → Option Nat) (fi : St) (sg : Nat → Sg) (E : Nat → List Ent) (ra : Nat → Nat) (kd : Nat → Int32) (a9 i : Nat) (h0 : f (q 0) = some (.inr (6, [.ref (q 1), .ref (q 2), .ref (q 3), .ref (q 4), .ref (q 5), .ref (q 6), .int (nI n), .int (nI na)]))) (h5 : f (q 5) = some (.inl (K 3, 6, .inr (.inr (.inr (.inr (gb))))))) (hna : na ≤ 6) (hn40 : n ≤ 40) (hT : RT K sg E ra kd fi n) (hI : Imm fi f) (ha9 : a9 < na) (hi : i < n) (hgb : gb a9 = some (ra i)) : Kc l D B K yX8_over cX8_over 3 ((some .int)) 50 0 0 [.ref (q 0), .int (nI a9)] f (Qi_ D B (fun r f9 => r = nI i ∧ f9 = f)) := by
  refine v_met [(0, .ref (q 0)), (1, .int (nI a9))] (by decide) (Nat.le_of_ble_eq_true rfl) rfl ?_
  intro p e s m args below meth c C hr hlk hin
  obtain ⟨cii, fsi, hcii, hcelli, hf0i, hf1i, hf2i, hf3i⟩ := RT_hdr (hT.2 i hi).1
  refine v_aload_n C dX8_over_0 rfl rfl ?_
  refine v_iload_n C dX8_over_1 rfl rfl ?_
  refine v_cq (r_V C (c_baseOf_ok l D B K _ q n na gb a9 (ra i) h0 h5 ha9 hna hgb) dX8_over_2 h0 rfl g_ml_X8_178 g_im_yX8_baseOf g_se_X8_yX8_baseOf_yX8_baseOf g_in_X8 g_cd_yX8_baseOf (rn_le (by decide)) (by decide) rfl rfl hdn_yX8_baseOf (Nat.le_of_ble_eq_true rfl) ⟨Nat.le_of_ble_eq_true rfl, Nat.le_of_ble_eq_true rfl⟩) (fun r_2 f_2 hp_2 => ?_)
  obtain ⟨rfl, rfl⟩ := hp_2
  refine v_rq rfl ?_
  refine v_astore_n C dX8_over_5 rfl (by decide) rfl ?_
  refine v_aload_n C dX8_over_6 rfl rfl ?_
  refine v_ifnonnull (tgt := 15) C dX8_over_7 (by decide) ?_
  refine v_aload_n C dX8_over_15 rfl rfl ?_
  refine v_getR C dX8_over_16 0 (by decide) hcii (hI _ _ hcelli) g_fl_X8_186 hf0i ?_
  exact v_iret C hr hlk dX8_over_19 (Nat.le_of_ble_eq_true rfl) (Nat.le_of_ble_eq_true rfl) ⟨rfl, rfl⟩

def suN (p : Nat → Nat) : Nat → Nat
  | 0 => 0
  | k + 1 => suN p k + p k
set_option maxHeartbeats 4000000 in
set_option maxRecDepth 100000 in
theorem L_cells {p : Program} {l : Launch} {e : Env} {s : State} {m : MethodId} {args : Array Value} {below : List Frame} {meth : Method} {c : Code} {D : va_G} {B : Nat} {K : Nat → ClassId} (C : Cx p s m args c cX8_cellsInUse 4 yX8_cellsInUse.cls D B K) (hr : meth.sig.returnType = (some .int)) (hlk : meth.locks = false) (f : St) (q : Nat → Nat) (n na : Nat) (gb : Nat → Option Nat) (bs : Nat → Nat) (fi : St) (sg : Nat → Sg) (E : Nat → List Ent) (ra : Nat → Nat) (kd : Nat → Int32) (h0 : f (q 0) = some (.inr (6, [.ref (q 1), .ref (q 2), .ref (q 3), .ref (q 4), .ref (q 5), .ref (q 6), .int (nI n), .int (nI na)]))) (h5 : f (q 5) = some (.inl (K 3, 6, .inr (.inr (.inr (.inr (gb))))))) (hna : na ≤ 6) (hT : RT K sg E ra kd fi n) (hI : Imm fi f) (hbs : ∀ a, a < na → gb a = some (ra (bs a)) ∧ bs a < n ∧ prodE sg (E (bs a)) ≤ 400) : ∀ (n9 k : Nat), k ≤ na → na + 1 ≤ k + n9 → V p l e (RM 2 0 0) s m args below meth c D B 4 (MQ below (Qi_ D B (fun r f9 => r = nI (suN (fun a => prodE sg (E (bs a))) na) ∧ f9 = f)) args s 0 0 (AB B)) 0 0 f (lof [(0, .ref (q 0)), (1, .int (nI (suN (fun a => prodE sg (E (bs a))) k))), (2, .int (nI k))]) 4 [] := by
  intro n9
  induction n9 with
  | zero => intro k h1 h2; omega
  | succ n9 ih =>
    intro k hk hin
    by_cases hlt : k < na
    · obtain ⟨hb1, hb2, hb3⟩ := hbs k hlt
      obtain ⟨ci, fs, hci, hcell, hf0, hf1, hf2, hf3⟩ := RT_hdr (hT.2 (bs k) hb2).1
      refine v_iload_n C dX8_cellsInUse_4 rfl rfl ?_
      refine v_aload_n C dX8_cellsInUse_5 rfl rfl ?_
      refine v_get C dX8_cellsInUse_6 7 h0 rfl in_X8 (by decide) g_fl_X8_44 (fun _ h9 => h9) rfl ?_
      refine v_icmp_ge (tgt := 40) C dX8_cellsInUse_9 (by decide) (fun c_9 => absurd c_9 (nI_ge hlt (by omega))) (fun c_9 => ?_)
      refine v_aload_n C dX8_cellsInUse_12 rfl rfl ?_
      refine v_iload_n C dX8_cellsInUse_13 rfl rfl ?_
      refine v_cq (r_V C (c_baseOf_ok l D B K _ q n na gb k (ra (bs k)) h0 h5 hlt hna hb1) dX8_cellsInUse_14 h0 rfl g_ml_X8_178 g_im_yX8_baseOf g_se_X8_yX8_baseOf_yX8_baseOf g_in_X8 g_cd_yX8_baseOf (rn_le (by decide)) (by decide) rfl rfl hdn_yX8_baseOf (Nat.le_of_ble_eq_true rfl) ⟨Nat.le_of_ble_eq_true rfl, Nat.le_of_ble_eq_true rfl⟩) (fun r_14 f_14 hp_14 => ?_)
      obtain ⟨rfl, hf9⟩ := hp_14
      have hf9 := hf9.symm
      subst hf9
      refine v_rq rfl ?_
      refine v_astore_n C dX8_cellsInUse_17 rfl (by decide) rfl ?_
      refine v_iload_n C dX8_cellsInUse_18 rfl rfl ?_
      refine v_aload_n C dX8_cellsInUse_19 rfl rfl ?_
      refine v_ifnonnull (tgt := 27) C dX8_cellsInUse_20 (by decide) ?_
      refine v_aload_n C dX8_cellsInUse_27 rfl rfl ?_
      refine v_getR C dX8_cellsInUse_28 3 (by decide) hci (hI _ _ hcell) g_fl_X8_75 hf3 ?_
      refine v_rl (sat_lt (by omega)) ?_
      refine v_l2i C dX8_cellsInUse_31 ?_
      rw [lN_i]
      refine v_iadd C dX8_cellsInUse_32 ?_
      refine v_ri (nI_add _ _) ?_
      refine v_istore_n C dX8_cellsInUse_33 rfl (by decide) rfl ?_
      refine v_iinc (y := 1) C dX8_cellsInUse_34 rfl (by decide) (by decide) rfl ?_
      refine v_goto (tgt := 4) C dX8_cellsInUse_37 (by decide) ?_
      refine v_loc [(0, .ref (q 0)), (1, .int (nI (suN (fun a => prodE sg (E (bs a))) (k + 1)))), (2, .int (nI (k + 1)))] (lsub_c rfl (lsub_c rfl (lsub_c (by rw [nI_succ]; rfl) lsub_n))) ?_
      exact ih (k + 1) hlt (by omega)
    · refine v_iload_n C dX8_cellsInUse_4 rfl rfl ?_
      refine v_aload_n C dX8_cellsInUse_5 rfl rfl ?_
      refine v_get C dX8_cellsInUse_6 7 h0 rfl in_X8 (by decide) g_fl_X8_44 (fun _ h9 => h9) rfl ?_
      refine v_icmp_ge (tgt := 40) C dX8_cellsInUse_9 (by decide) (fun c_9 => ?_) (fun c_9 => absurd (nI_le (by omega) (by omega)) c_9)
      refine v_iload_n C dX8_cellsInUse_40 rfl rfl ?_
      exact v_iret C hr hlk dX8_cellsInUse_41 (Nat.le_refl _) (Nat.le_refl _) ⟨by rw [show k = na by omega], rfl⟩

set_option maxHeartbeats 4000000 in
set_option maxRecDepth 100000 in
theorem c_cellsInUse (l : Launch) (D : va_G) (B : Nat) (K : Nat → ClassId) (f : St) (q : Nat → Nat) (n na : Nat) (gb : Nat → Option Nat) (bs : Nat → Nat) (fi : St) (sg : Nat → Sg) (E : Nat → List Ent) (ra : Nat → Nat) (kd : Nat → Int32) (h0 : f (q 0) = some (.inr (6, [.ref (q 1), .ref (q 2), .ref (q 3), .ref (q 4), .ref (q 5), .ref (q 6), .int (nI n), .int (nI na)]))) (h5 : f (q 5) = some (.inl (K 3, 6, .inr (.inr (.inr (.inr (gb))))))) (hna : na ≤ 6) (hT : RT K sg E ra kd fi n) (hI : Imm fi f) (hbs : ∀ a, a < na → gb a = some (ra (bs a)) ∧ bs a < n ∧ prodE sg (E (bs a)) ≤ 400) : Kc l D B K yX8_cellsInUse cX8_cellsInUse 4 ((some .int)) 2 0 0 [.ref (q 0)] f (Qi_ D B (fun r f9 => r = nI (suN (fun a => prodE sg (E (bs a))) na) ∧ f9 = f)) := by
  refine v_met [(0, .ref (q 0))] (by decide) (Nat.le_of_ble_eq_true rfl) rfl ?_
  intro p e s m args below meth c C hr hlk hin
  refine v_iconst (v := 0) C dX8_cellsInUse_0 (by decide) ?_
  refine v_istore_n C dX8_cellsInUse_1 rfl (by decide) rfl ?_
  refine v_iconst (v := 0) C dX8_cellsInUse_2 (by decide) ?_
  refine v_istore_n C dX8_cellsInUse_3 rfl (by decide) rfl ?_
  refine v_loc [(0, .ref (q 0)), (1, .int (nI (suN (fun a => prodE sg (E (bs a))) 0))), (2, .int (nI 0))] (lsub_c rfl (lsub_c rfl (lsub_c rfl lsub_n))) ?_
  exact L_cells C hr hlk f q n na gb bs fi sg E ra kd h0 h5 hna hT hI hbs (na + 1) 0 (Nat.zero_le _) (by omega)

set_option maxHeartbeats 4000000 in
set_option maxRecDepth 100000 in
theorem c_count_0 (l : Launch) (D : va_G) (B : Nat) (K : Nat → ClassId) (f : St) (q : Nat → Nat) (n na : Nat) (h0 : f (q 0) = some (.inr (6, [.ref (q 1), .ref (q 2), .ref (q 3), .ref (q 4), .ref (q 5), .ref (q 6), .int (nI n), .int (nI na)]))) : Kc l D B K yX8_count cX8_count 2 ((some .int)) 50 0 0 [.ref (q 0), .int 0] f (Qi_ D B (fun r f9 => r = nI n ∧ f9 = f)) := by
  refine v_met [(0, .ref (q 0)), (1, .int 0)] (by decide) (Nat.le_of_ble_eq_true rfl) rfl ?_
  intro p e s m args below meth c C hr hlk hin
  refine v_iload_n C dX8_count_0 rfl rfl ?_
  refine v_tabIn (tgt := 32) (off := 31) C dX8_count_1 (by decide) (by decide) (by decide) (by decide) ?_
  refine v_aload_n C dX8_count_32 rfl rfl ?_
  refine v_get C dX8_count_33 6 h0 rfl in_X8 (by decide) g_fl_X8_40 (fun _ h9 => h9) rfl ?_
  exact v_iret C hr hlk dX8_count_36 (Nat.le_of_ble_eq_true rfl) (Nat.le_of_ble_eq_true rfl) ⟨rfl, rfl⟩

set_option maxHeartbeats 4000000 in
set_option maxRecDepth 100000 in
theorem c_count_1 (l : Launch) (D : va_G) (B : Nat) (K : Nat → ClassId) (f : St) (q : Nat → Nat) (n na : Nat) (h0 : f (q 0) = some (.inr (6, [.ref (q 1), .ref (q 2), .ref (q 3), .ref (q 4), .ref (q 5), .ref (q 6), .int (nI n), .int (nI na)]))) : Kc l D B K yX8_count cX8_count 2 ((some .int)) 50 0 0 [.ref (q 0), .int 1] f (Qi_ D B (fun r f9 => r = nI na ∧ f9 = f)) := by
  refine v_met [(0, .ref (q 0)), (1, .int 1)] (by decide) (Nat.le_of_ble_eq_true rfl) rfl ?_
  intro p e s m args below meth c C hr hlk hin
  refine v_iload_n C dX8_count_0 rfl rfl ?_
  refine v_tabIn (tgt := 37) (off := 36) C dX8_count_1 (by decide) (by decide) (by decide) (by decide) ?_
  refine v_aload_n C dX8_count_37 rfl rfl ?_
  refine v_get C dX8_count_38 7 h0 rfl in_X8 (by decide) g_fl_X8_44 (fun _ h9 => h9) rfl ?_
  exact v_iret C hr hlk dX8_count_41 (Nat.le_of_ble_eq_true rfl) (Nat.le_of_ble_eq_true rfl) ⟨rfl, rfl⟩

set_option maxHeartbeats 4000000 in
set_option maxRecDepth 100000 in
theorem c_count_2 (l : Launch) (D : va_G) (B : Nat) (K : Nat → ClassId) (f : St) (q : Nat → Nat) (n na : Nat) (t x y z : Int32) (h0 : f (q 0) = some (.inr (6, [.ref (q 1), .ref (q 2), .ref (q 3), .ref (q 4), .ref (q 5), .ref (q 6), .int (nI n), .int (nI na)]))) (h3 : f (q 3) = some (.inr (3, [.int t, .int x, .int y, .int z]))) : Kc l D B K yX8_count cX8_count 2 ((some .int)) 50 0 0 [.ref (q 0), .int 2] f (Qi_ D B (fun r f9 => r = t ∧ f9 = f)) := by
  refine v_met [(0, .ref (q 0)), (1, .int 2)] (by decide) (Nat.le_of_ble_eq_true rfl) rfl ?_
  intro p e s m args below meth c C hr hlk hin
  refine v_iload_n C dX8_count_0 rfl rfl ?_
  refine v_tabIn (tgt := 42) (off := 41) C dX8_count_1 (by decide) (by decide) (by decide) (by decide) ?_
  refine v_aload_n C dX8_count_42 rfl rfl ?_
  refine v_get C dX8_count_43 2 h0 rfl in_X8 (by decide) g_fl_X8_22 (fun _ h9 => h9) rfl ?_
  refine v_get C dX8_count_46 0 h3 rfl in_X3 (by decide) g_fl_X8_145 (fun _ h9 => h9) rfl ?_
  exact v_iret C hr hlk dX8_count_49 (Nat.le_of_ble_eq_true rfl) (Nat.le_of_ble_eq_true rfl) ⟨rfl, rfl⟩

set_option maxHeartbeats 4000000 in
set_option maxRecDepth 100000 in
theorem c_count_3 (l : Launch) (D : va_G) (B : Nat) (K : Nat → ClassId) (f : St) (q : Nat → Nat) (n na : Nat) (gb : Nat → Option Nat) (bs : Nat → Nat) (fi : St) (sg : Nat → Sg) (E : Nat → List Ent) (ra : Nat → Nat) (kd : Nat → Int32) (h0 : f (q 0) = some (.inr (6, [.ref (q 1), .ref (q 2), .ref (q 3), .ref (q 4), .ref (q 5), .ref (q 6), .int (nI n), .int (nI na)]))) (h5 : f (q 5) = some (.inl (K 3, 6, .inr (.inr (.inr (.inr (gb))))))) (hna : na ≤ 6) (hT : RT K sg E ra kd fi n) (hI : Imm fi f) (hbs : ∀ a, a < na → gb a = some (ra (bs a)) ∧ bs a < n ∧ prodE sg (E (bs a)) ≤ 400) : Kc l D B K yX8_count cX8_count 2 ((some .int)) 50 0 0 [.ref (q 0), .int 3] f (Qi_ D B (fun r f9 => r = nI (suN (fun a => prodE sg (E (bs a))) na) ∧ f9 = f)) := by
  refine v_met [(0, .ref (q 0)), (1, .int 3)] (by decide) (Nat.le_of_ble_eq_true rfl) rfl ?_
  intro p e s m args below meth c C hr hlk hin
  refine v_iload_n C dX8_count_0 rfl rfl ?_
  refine v_tabIn (tgt := 50) (off := 49) C dX8_count_1 (by decide) (by decide) (by decide) (by decide) ?_
  refine v_aload_n C dX8_count_50 rfl rfl ?_
  refine v_ci (r_V C (c_cellsInUse l D B K _ q n na gb bs fi sg E ra kd h0 h5 hna hT hI hbs) dX8_count_51 h0 rfl g_ml_X8_187 g_im_yX8_cellsInUse g_se_X8_yX8_cellsInUse_yX8_cellsInUse g_in_X8 g_cd_yX8_cellsInUse (rn_le (by decide)) (by decide) rfl rfl hdn_yX8_cellsInUse (Nat.le_of_ble_eq_true rfl) ⟨Nat.le_of_ble_eq_true rfl, Nat.le_of_ble_eq_true rfl⟩) (fun r_51 f_51 hp_51 => ?_)
  obtain ⟨rfl, rfl⟩ := hp_51
  exact v_iret C hr hlk dX8_count_54 (Nat.le_of_ble_eq_true rfl) (Nat.le_of_ble_eq_true rfl) ⟨rfl, rfl⟩

set_option maxHeartbeats 4000000 in
set_option maxRecDepth 100000 in
theorem c_count_out (l : Launch) (D : va_G) (B : Nat) (K : Nat → ClassId) (f : St) (q : Nat → Nat) (n na : Nat) (h0 : f (q 0) = some (.inr (6, [.ref (q 1), .ref (q 2), .ref (q 3), .ref (q 4), .ref (q 5), .ref (q 6), .int (nI n), .int (nI na)]))) (w : Int32) (hw : w.toInt < 0 ∨ 3 < w.toInt) : Kc l D B K yX8_count cX8_count 2 ((some .int)) 50 0 0 [.ref (q 0), .int w] f (Qi_ D B (fun r f9 => r = -102 ∧ f9 = f)) := by
  refine v_met [(0, .ref (q 0)), (1, .int w)] (by decide) (Nat.le_of_ble_eq_true rfl) rfl ?_
  intro p e s m args below meth c C hr hlk hin
  refine v_iload_n C dX8_count_0 rfl rfl ?_
  refine v_tabOut (tgt := 55) C dX8_count_1 hw (by decide) ?_
  refine v_bipush (v := (-102)) C dX8_count_55 (by decide) ?_
  exact v_iret C hr hlk dX8_count_57 (Nat.le_of_ble_eq_true rfl) (Nat.le_of_ble_eq_true rfl) ⟨rfl, rfl⟩

set_option maxHeartbeats 4000000 in
set_option maxRecDepth 100000 in
theorem c_clear (l : Launch) (D : va_G) (B : Nat) (K : Nat → ClassId) (f : St) (q : Nat → Nat) (n na : Nat) (t x y z : Int32) (h : Nat → Int64) (h0 : f (q 0) = some (.inr (6, [.ref (q 1), .ref (q 2), .ref (q 3), .ref (q 4), .ref (q 5), .ref (q 6), .int (nI n), .int (nI na)]))) (h1 : f (q 1) = some (.inr (2, [.ref (q 7)]))) (h7 : f (q 7) = some (.inl (K 1, 8, .inr (.inl h)))) (h3 : f (q 3) = some (.inr (3, [.int t, .int x, .int y, .int z]))) (hq : ∀ i j, i < 15 → j < 15 → q i = q j → i = j) : Kc l D B K yX8_clear cX8_clear 2 ((some .int)) 50 0 0 [.ref (q 0)] f (Qi_ D B (fun r f9 => r = nI n ∧ ∃ g9 : Nat → Int64, (∀ j, j < 8 → g9 j = 0) ∧ f9 = va_up (va_up (va_up f (q 0) (some (.inr (6, [.ref (q 1), .ref (q 2), .ref (q 3), .ref (q 4), .ref (q 5), .ref (q 6), .int (nI 0), .int (nI 0)])))) (q 7) (some (.inl (K 1, 8, .inr (.inl g9))))) (q 3) (some (.inr (3, [.int 0, .int x, .int y, .int z]))))) := by
  refine v_met [(0, .ref (q 0))] (by decide) (Nat.le_of_ble_eq_true rfl) rfl ?_
  intro p e s m args below meth c C hr hlk hin
  have n10 : q 1 ≠ q 0 := fun e9 => absurd (hq 1 0 (by decide) (by decide) e9) (by decide)
  have n70 : q 7 ≠ q 0 := fun e9 => absurd (hq 7 0 (by decide) (by decide) e9) (by decide)
  have n30 : q 3 ≠ q 0 := fun e9 => absurd (hq 3 0 (by decide) (by decide) e9) (by decide)
  have n37 : q 3 ≠ q 7 := fun e9 => absurd (hq 3 7 (by decide) (by decide) e9) (by decide)
  have n07 : q 0 ≠ q 7 := fun e9 => absurd (hq 0 7 (by decide) (by decide) e9) (by decide)
  refine v_aload_n C dX8_clear_0 rfl rfl ?_
  refine v_get C dX8_clear_1 6 h0 rfl in_X8 (by decide) g_fl_X8_40 (fun _ h9 => h9) rfl ?_
  refine v_istore_n C dX8_clear_4 rfl (by decide) rfl ?_
  refine v_aload_n C dX8_clear_5 rfl rfl ?_
  refine v_iconst (v := 0) C dX8_clear_6 (by decide) ?_
  refine v_put C dX8_clear_7 6 h0 rfl in_X8 tyX8 tyX8_ok nmX8 (by decide) g_fl_X8_40 (fun _ h9 => h9) rfl (tyX_at tyX8_ok (by decide)) rfl rfl (Nat.le_of_ble_eq_true rfl) ?_
  refine v_aload_n C dX8_clear_10 rfl rfl ?_
  refine v_iconst (v := 0) C dX8_clear_11 (by decide) ?_
  refine v_put C dX8_clear_12 7 (va_up_self _ _ _) rfl in_X8 tyX8 tyX8_ok nmX8 (by decide) g_fl_X8_44 (fun _ h9 => h9) rfl (tyX_at tyX8_ok (by decide)) rfl rfl (Nat.le_of_ble_eq_true rfl) ?_
  rw [bx_uu]
  refine v_aload_n C dX8_clear_15 rfl rfl ?_
  refine v_get C dX8_clear_16 0 (va_up_self _ _ _) rfl in_X8 (by decide) g_fl_X8_10 (fun _ h9 => h9) rfl ?_
  refine v_cv (r_V C (c_drop l D B K _ (q 1) (q 7) h (by rw [va_up_ne _ _ n10]; exact h1) (by rw [va_up_ne _ _ n70]; exact h7)) dX8_clear_19 (by rw [va_up_ne _ _ n10]; exact h1) rfl g_ml_X8_190 g_im_yX2_drop g_se_X2_yX2_drop_yX2_drop g_in_X2 g_cd_yX2_drop (rn_le (by decide)) (by decide) rfl rfl hdn_yX2_drop (Nat.le_of_ble_eq_true rfl) ⟨Nat.le_of_ble_eq_true rfl, Nat.le_of_ble_eq_true rfl⟩) (fun f_19 hp_19 => ?_)
  obtain ⟨g9, hg9, rfl⟩ := hp_19
  refine v_aload_n C dX8_clear_22 rfl rfl ?_
  refine v_get C dX8_clear_23 2 (by rw [va_up_ne _ _ n07]; exact va_up_self _ _ _) rfl in_X8 (by decide) g_fl_X8_22 (fun _ h9 => h9) rfl ?_
  refine v_cv (r_V C (c_forget l D B K _ (q 3) t x y z (by rw [va_up_ne _ _ n37, va_up_ne _ _ n30]; exact h3)) dX8_clear_26 (by rw [va_up_ne _ _ n37, va_up_ne _ _ n30]; exact h3) rfl g_ml_X8_193 g_im_yX3_forget g_se_X3_yX3_forget_yX3_forget g_in_X3 g_cd_yX3_forget (rn_le (by decide)) (by decide) rfl rfl hdn_yX3_forget (Nat.le_of_ble_eq_true rfl) ⟨Nat.le_of_ble_eq_true rfl, Nat.le_of_ble_eq_true rfl⟩) (fun f_26 hp_26 => ?_)
  subst hp_26
  refine v_iload_n C dX8_clear_29 rfl rfl ?_
  exact v_iret C hr hlk dX8_clear_30 (Nat.le_of_ble_eq_true rfl) (Nat.le_of_ble_eq_true rfl) ⟨rfl, g9, hg9, rfl⟩

