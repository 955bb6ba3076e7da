/-! the program: pair and triple -/
theorem v_astR {p : Program} {l : Launch} {e : Env} {R : Room} {s : State} {m : MethodId} {args : Array Value} {below : List Frame} {meth : Method} {c : Code} {D : va_G} {B nL : Nat} {Q : State → Prop} {ce sl : Nat} {f : St} {lv : Lv} {pc : Nat} {st : List Value} {cc : ByteArray} {own : String} {K : Nat → ClassId} (C : Cx p s m args c cc nL own D B K) {a n v ci : Nat} {g : Nat → Option Nat} {i : Int32} {fs : List Value} (hd : decode cc pc = .ok (.aastore, 1)) (he : f a = some (.inl (K 3, n, .inr (.inr (.inr (.inr g)))))) (hci : ci = 0 ∨ ci = 1 ∨ ci = 4 ∨ ci = 5) (hv : f v = some (.inr (ci, fs))) (hi : vp_in i n) (k : V p l e R s m args below meth c D B nL Q ce sl (va_up f a (some (.inl (K 3, n, .inr (.inr (.inr (.inr (va_up g i.toNatClampNeg (some v))))))))) lv (pc + 1) st) : V p l e R s m args below meth c D B nL Q ce sl f lv pc (.ref v :: .int i :: .ref a :: st) := by
  rcases hci with rfl | rfl | rfl | rfl
  · exact v_ast C hd he hv rfl (by decide +kernel) hi k
  · exact v_ast C hd he hv rfl (by decide +kernel) hi k
  · exact v_ast C hd he hv rfl (by decide +kernel) hi k
  · exact v_ast C hd he hv rfl (by decide +kernel) hi k
def gp2 (a b : Nat) : Nat → Option Nat := va_up (va_up (fun _ => none) 0 (some a)) 1 (some b)
def gp3 (a b c : Nat) : Nat → Option Nat := va_up (va_up (va_up (fun _ => none) 0 (some a)) 1 (some b)) 2 (some c)
theorem gp2_ok (ra : Nat → Nat) (i j : Nat) : ∀ t j9, ([i, j] : List Nat)[t]? = some j9 → gp2 (ra i) (ra j) t = some (ra j9) := fun t j9 h => by
  match t, h with
  | 0, h => cases h; rfl
  | 1, h => cases h; rfl
  | t + 2, h => simp at h
theorem gp3_ok (ra : Nat → Nat) (i j k : Nat) : ∀ t j9, ([i, j, k] : List Nat)[t]? = some j9 → gp3 (ra i) (ra j) (ra k) t = some (ra j9) := fun t j9 h => by
  match t, h with
  | 0, h => cases h; rfl
  | 1, h => cases h; rfl
  | 2, h => cases h; rfl
  | t + 3, h => simp at h
theorem imm_none {fi f : St} {a : Nat} (hI : Imm fi f) (h : f a = none) : fi a = none := by
  cases hf : fi a with
  | none => rfl
  | some x => rw [hI a x hf] at h; cases h
theorem fm_le {E : Nat → List Ent} {js : List Nat} (h : ∀ j ∈ js, (E j).length ≤ 8) : (js.flatMap E).length ≤ 8 * js.length := by
  induction js with
  | nil => simp
  | cons a t ih =>
    rw [List.flatMap_cons, List.length_append, List.length_cons]
    have h1 := h a List.mem_cons_self
    have h2 := ih (fun j hj => h j (List.mem_cons_of_mem _ hj))
    omega
set_option maxHeartbeats 4000000 in
set_option maxRecDepth 100000 in
theorem c_pair_bad00 (l : Launch) (D : va_G) (B : Nat) (K : Nat → ClassId) (f : St) (q : Nat → Nat) (n na : Nat) (g : Nat → Option Nat) (fi : St) (sg : Nat → Sg) (E : Nat → List Ent) (ra : Nat → Nat) (kd : Nat → Int32) (x : Int32) (x2 : Int32) (h0 : f (q 0) = some (.inr (6, [.ref (q 1), .ref (q 2), .ref (q 3), .ref (q 4), .ref (q 5), .ref (q 6), .int (nI n), .int (nI na)]))) (h4 : f (q 4) = some (.inl (K 3, 40, .inr (.inr (.inr (.inr (g))))))) (hn40 : n ≤ 40) (hT : RT K sg E ra kd fi n) (hI : Imm fi f) (hg : ∀ i, i < n → g i = some (ra i)) (hx : x < 0 ∨ nI n ≤ x) (hx2 : x2 < 0 ∨ nI n ≤ x2) : Kc l D B K yX8_pair cX8_pair 5 ((some .int)) 50 2 8 [.ref (q 0), .int x, .int x2] f (Qi_ D B (fun r f9 => r = -101 ∧ f9 = f)) := by
  refine v_met [(0, .ref (q 0)), (1, .int x), (2, .int x2)] (by decide) (Nat.le_of_ble_eq_true rfl) rfl ?_
  intro p e s m args below meth c C hr hlk hin
  refine v_aload_n C dX8_pair_0 rfl rfl ?_
  refine v_iload_n C dX8_pair_1 rfl rfl ?_
  refine v_cq (r_V C (c_rangeOf_bad l D B K _ q n na x h0 hx hn40) dX8_pair_2 h0 rfl g_ml_X8_71 g_im_yX8_rangeOf g_se_X8_yX8_rangeOf_yX8_rangeOf g_in_X8 g_cd_yX8_rangeOf (rn_le (by decide)) (by decide) rfl rfl hdn_yX8_rangeOf (Nat.le_of_ble_eq_true rfl) ⟨Nat.le_of_ble_eq_true rfl, Nat.le_of_ble_eq_true rfl⟩) (fun r_2 f_2 hp_2 => ?_)
  obtain ⟨rfl, rfl⟩ := hp_2
  refine v_rn rfl ?_
  refine v_astore_nN C dX8_pair_5 rfl (by decide) rfl ?_
  refine v_aload_n C dX8_pair_6 rfl rfl ?_
  refine v_iload_n C dX8_pair_7 rfl rfl ?_
  refine v_cq (r_V C (c_rangeOf_bad l D B K _ q n na x2 h0 hx2 hn40) dX8_pair_8 h0 rfl g_ml_X8_71 g_im_yX8_rangeOf g_se_X8_yX8_rangeOf_yX8_rangeOf g_in_X8 g_cd_yX8_rangeOf (rn_le (by decide)) (by decide) rfl rfl hdn_yX8_rangeOf (Nat.le_of_ble_eq_true rfl) ⟨Nat.le_of_ble_eq_true rfl, Nat.le_of_ble_eq_true rfl⟩) (fun r_8 f_8 hp_8 => ?_)
  obtain ⟨rfl, rfl⟩ := hp_8
  refine v_rn rfl ?_
  refine v_astoreN C dX8_pair_11 (by decide) rfl ?_
  refine v_aload_nN C dX8_pair_13 rfl rfl ?_
  refine v_ifnullN (tgt := 22) C dX8_pair_14 (by decide) ?_
  refine v_bipush (v := (-101)) C dX8_pair_22 (by decide) ?_
  exact v_iret C hr hlk dX8_pair_24 (Nat.le_of_ble_eq_true rfl) (Nat.le_of_ble_eq_true rfl) ⟨rfl, rfl⟩

set_option maxHeartbeats 4000000 in
set_option maxRecDepth 100000 in
theorem c_pair_bad01 (l : Launch) (D : va_G) (B : Nat) (K : Nat → ClassId) (f : St) (q : Nat → Nat) (n na : Nat) (g : Nat → Option Nat) (fi : St) (sg : Nat → Sg) (E : Nat → List Ent) (ra : Nat → Nat) (kd : Nat → Int32) (x : Int32) (j : Nat) (h0 : f (q 0) = some (.inr (6, [.ref (q 1), .ref (q 2), .ref (q 3), .ref (q 4), .ref (q 5), .ref (q 6), .int (nI n), .int (nI na)]))) (h4 : f (q 4) = some (.inl (K 3, 40, .inr (.inr (.inr (.inr (g))))))) (hn40 : n ≤ 40) (hT : RT K sg E ra kd fi n) (hI : Imm fi f) (hg : ∀ i, i < n → g i = some (ra i)) (hx : x < 0 ∨ nI n ≤ x) (hj : j < n) : Kc l D B K yX8_pair cX8_pair 5 ((some .int)) 50 2 8 [.ref (q 0), .int x, .int (nI j)] f (Qi_ D B (fun r f9 => r = -101 ∧ f9 = f)) := by
  refine v_met [(0, .ref (q 0)), (1, .int x), (2, .int (nI j))] (by decide) (Nat.le_of_ble_eq_true rfl) rfl ?_
  intro p e s m args below meth c C hr hlk hin
  refine v_aload_n C dX8_pair_0 rfl rfl ?_
  refine v_iload_n C dX8_pair_1 rfl rfl ?_
  refine v_cq (r_V C (c_rangeOf_bad l D B K _ q n na x h0 hx hn40) dX8_pair_2 h0 rfl g_ml_X8_71 g_im_yX8_rangeOf g_se_X8_yX8_rangeOf_yX8_rangeOf g_in_X8 g_cd_yX8_rangeOf (rn_le (by decide)) (by decide) rfl rfl hdn_yX8_rangeOf (Nat.le_of_ble_eq_true rfl) ⟨Nat.le_of_ble_eq_true rfl, Nat.le_of_ble_eq_true rfl⟩) (fun r_2 f_2 hp_2 => ?_)
  obtain ⟨rfl, rfl⟩ := hp_2
  refine v_rn rfl ?_
  refine v_astore_nN C dX8_pair_5 rfl (by decide) rfl ?_
  refine v_aload_n C dX8_pair_6 rfl rfl ?_
  refine v_iload_n C dX8_pair_7 rfl rfl ?_
  refine v_cq (r_V C (c_rangeOf_ok l D B K _ q n na g j (ra j) h0 h4 hj hn40 (hg j hj)) dX8_pair_8 h0 rfl g_ml_X8_71 g_im_yX8_rangeOf g_se_X8_yX8_rangeOf_yX8_rangeOf g_in_X8 g_cd_yX8_rangeOf (rn_le (by decide)) (by decide) rfl rfl hdn_yX8_rangeOf (Nat.le_of_ble_eq_true rfl) ⟨Nat.le_of_ble_eq_true rfl, Nat.le_of_ble_eq_true rfl⟩) (fun r_8 f_8 hp_8 => ?_)
  obtain ⟨rfl, rfl⟩ := hp_8
  refine v_rq rfl ?_
  refine v_astore C dX8_pair_11 (by decide) rfl ?_
  refine v_aload_nN C dX8_pair_13 rfl rfl ?_
  refine v_ifnullN (tgt := 22) C dX8_pair_14 (by decide) ?_
  refine v_bipush (v := (-101)) C dX8_pair_22 (by decide) ?_
  exact v_iret C hr hlk dX8_pair_24 (Nat.le_of_ble_eq_true rfl) (Nat.le_of_ble_eq_true rfl) ⟨rfl, rfl⟩

set_option maxHeartbeats 4000000 in
set_option maxRecDepth 100000 in
theorem c_pair_bad10 (l : Launch) (D : va_G) (B : Nat) (K : Nat → ClassId) (f : St) (q : Nat → Nat) (n na : Nat) (g : Nat → Option Nat) (fi : St) (sg : Nat → Sg) (E : Nat → List Ent) (ra : Nat → Nat) (kd : Nat → Int32) (i : Nat) (x2 : Int32) (h0 : f (q 0) = some (.inr (6, [.ref (q 1), .ref (q 2), .ref (q 3), .ref (q 4), .ref (q 5), .ref (q 6), .int (nI n), .int (nI na)]))) (h4 : f (q 4) = some (.inl (K 3, 40, .inr (.inr (.inr (.inr (g))))))) (hn40 : n ≤ 40) (hT : RT K sg E ra kd fi n) (hI : Imm fi f) (hg : ∀ i, i < n → g i = some (ra i)) (hi : i < n) (hx2 : x2 < 0 ∨ nI n ≤ x2) : Kc l D B K yX8_pair cX8_pair 5 ((some .int)) 50 2 8 [.ref (q 0), .int (nI i), .int x2] f (Qi_ D B (fun r f9 => r = -101 ∧ f9 = f)) := by
  refine v_met [(0, .ref (q 0)), (1, .int (nI i)), (2, .int x2)] (by decide) (Nat.le_of_ble_eq_true rfl) rfl ?_
  intro p e s m args below meth c C hr hlk hin
  refine v_aload_n C dX8_pair_0 rfl rfl ?_
  refine v_iload_n C dX8_pair_1 rfl rfl ?_
  refine v_cq (r_V C (c_rangeOf_ok l D B K _ q n na g i (ra i) h0 h4 hi hn40 (hg i hi)) dX8_pair_2 h0 rfl g_ml_X8_71 g_im_yX8_rangeOf g_se_X8_yX8_rangeOf_yX8_rangeOf g_in_X8 g_cd_yX8_rangeOf (rn_le (by decide)) (by decide) rfl rfl hdn_yX8_rangeOf (Nat.le_of_ble_eq_true rfl) ⟨Nat.le_of_ble_eq_true rfl, Nat.le_of_ble_eq_true rfl⟩) (fun r_2 f_2 hp_2 => ?_)
  obtain ⟨rfl, rfl⟩ := hp_2
  refine v_rq rfl ?_
  refine v_astore_n C dX8_pair_5 rfl (by decide) rfl ?_
  refine v_aload_n C dX8_pair_6 rfl rfl ?_
  refine v_iload_n C dX8_pair_7 rfl rfl ?_
  refine v_cq (r_V C (c_rangeOf_bad l D B K _ q n na x2 h0 hx2 hn40) dX8_pair_8 h0 rfl g_ml_X8_71 g_im_yX8_rangeOf g_se_X8_yX8_rangeOf_yX8_rangeOf g_in_X8 g_cd_yX8_rangeOf (rn_le (by decide)) (by decide) rfl rfl hdn_yX8_rangeOf (Nat.le_of_ble_eq_true rfl) ⟨Nat.le_of_ble_eq_true rfl, Nat.le_of_ble_eq_true rfl⟩) (fun r_8 f_8 hp_8 => ?_)
  obtain ⟨rfl, rfl⟩ := hp_8
  refine v_rn rfl ?_
  refine v_astoreN C dX8_pair_11 (by decide) rfl ?_
  refine v_aload_n C dX8_pair_13 rfl rfl ?_
  refine v_ifnull C dX8_pair_14 ?_
  refine v_aloadN C dX8_pair_17 rfl ?_
  refine v_ifnonnullN C dX8_pair_19 ?_
  refine v_bipush (v := (-101)) C dX8_pair_22 (by decide) ?_
  exact v_iret C hr hlk dX8_pair_24 (Nat.le_of_ble_eq_true rfl) (Nat.le_of_ble_eq_true rfl) ⟨rfl, rfl⟩

set_option maxHeartbeats 4000000 in
set_option maxRecDepth 100000 in
theorem c_pair_state (l : Launch) (D : va_G) (B : Nat) (K : Nat → ClassId) (f : St) (q : Nat → Nat) (n na : Nat) (g : Nat → Option Nat) (fi : St) (sg : Nat → Sg) (E : Nat → List Ent) (ra : Nat → Nat) (kd : Nat → Int32) (i j : Nat) (h0 : f (q 0) = some (.inr (6, [.ref (q 1), .ref (q 2), .ref (q 3), .ref (q 4), .ref (q 5), .ref (q 6), .int (nI n), .int (nI na)]))) (h4 : f (q 4) = some (.inl (K 3, 40, .inr (.inr (.inr (.inr (g))))))) (hn40 : n ≤ 40) (hT : RT K sg E ra kd fi n) (hI : Imm fi f) (hg : ∀ i, i < n → g i = some (ra i)) (hi : i < n) (hj : j < n) (hw9 : 8 < (([i, j] : List Nat).flatMap E).length) : Kc l D B K yX8_pair cX8_pair 5 ((some .int)) 50 2 8 [.ref (q 0), .int (nI i), .int (nI j)] f (Qi_ D B (fun r f9 => r = -103 ∧ ∃ pa y9, f pa = none ∧ f9 = va_up f pa y9)) := by
  refine v_met [(0, .ref (q 0)), (1, .int (nI i)), (2, .int (nI j))] (by decide) (Nat.le_of_ble_eq_true rfl) rfl ?_
  intro p e s m args below meth c C hr hlk hin
  obtain ⟨cii, fsi, hcii, hcelli, hf0i, hf1i, hf2i, hf3i⟩ := RT_hdr (hT.2 i hi).1
  obtain ⟨cij, fsj, hcij, hcellj, hf0j, hf1j, hf2j, hf3j⟩ := RT_hdr (hT.2 j hj).1
  have hjs : ∀ j9 ∈ ([i, j] : List Nat), j9 < n := by simp only [List.forall_mem_cons]; exact ⟨hi, hj, fun _ h9 => nomatch h9⟩
  refine v_aload_n C dX8_pair_0 rfl rfl ?_
  refine v_iload_n C dX8_pair_1 rfl rfl ?_
  refine v_cq (r_V C (c_rangeOf_ok l D B K _ q n na g i (ra i) h0 h4 hi hn40 (hg i hi)) dX8_pair_2 h0 rfl g_ml_X8_71 g_im_yX8_rangeOf g_se_X8_yX8_rangeOf_yX8_rangeOf g_in_X8 g_cd_yX8_rangeOf (rn_le (by decide)) (by decide) rfl rfl hdn_yX8_rangeOf (Nat.le_of_ble_eq_true rfl) ⟨Nat.le_of_ble_eq_true rfl, Nat.le_of_ble_eq_true rfl⟩) (fun r_2 f_2 hp_2 => ?_)
  obtain ⟨rfl, rfl⟩ := hp_2
  refine v_rq rfl ?_
  refine v_astore_n C dX8_pair_5 rfl (by decide) rfl ?_
  refine v_aload_n C dX8_pair_6 rfl rfl ?_
  refine v_iload_n C dX8_pair_7 rfl rfl ?_
  refine v_cq (r_V C (c_rangeOf_ok l D B K _ q n na g j (ra j) h0 h4 hj hn40 (hg j hj)) dX8_pair_8 h0 rfl g_ml_X8_71 g_im_yX8_rangeOf g_se_X8_yX8_rangeOf_yX8_rangeOf g_in_X8 g_cd_yX8_rangeOf (rn_le (by decide)) (by decide) rfl rfl hdn_yX8_rangeOf (Nat.le_of_ble_eq_true rfl) ⟨Nat.le_of_ble_eq_true rfl, Nat.le_of_ble_eq_true rfl⟩) (fun r_8 f_8 hp_8 => ?_)
  obtain ⟨rfl, rfl⟩ := hp_8
  refine v_rq rfl ?_
  refine v_astore C dX8_pair_11 (by decide) rfl ?_
  refine v_aload_n C dX8_pair_13 rfl rfl ?_
  refine v_ifnull C dX8_pair_14 ?_
  refine v_aload C dX8_pair_17 rfl ?_
  refine v_ifnonnull (tgt := 25) C dX8_pair_19 (by decide) ?_
  refine v_aload_n C dX8_pair_25 rfl rfl ?_
  refine v_iconst (v := 5) C dX8_pair_26 (by decide) ?_
  refine v_iconst (v := 2) C dX8_pair_27 (by decide) ?_
  refine v_newq C dX8_pair_28 g_cl_X8_26 (by decide) rfl (by decide) (Nat.le_of_ble_eq_true rfl) (Nat.le_of_ble_eq_true rfl) (fun pa hpa => ?_)
  refine v_dup C dX8_pair_31 rfl ?_
  refine v_iconst (v := 0) C dX8_pair_32 (by decide) ?_
  refine v_aload_n C dX8_pair_33 rfl rfl ?_
  refine v_astR C dX8_pair_34 (va_up_self _ _ _) hcii (upn hpa (hI _ _ hcelli)) (vp_in_nI (n := 0) (by decide) (by decide)) ?_
  rw [bx_uu]
  refine v_dup C dX8_pair_35 rfl ?_
  refine v_iconst (v := 1) C dX8_pair_36 (by decide) ?_
  refine v_aload C dX8_pair_37 rfl ?_
  refine v_astR C dX8_pair_39 (va_up_self _ _ _) hcij (upn hpa (hI _ _ hcellj)) (vp_in_nI (n := 1) (by decide) (by decide)) ?_
  rw [bx_uu]
  show V p l e (RM 50 2 8) s m args below meth c D B 5 _ _ _ (va_up _ pa (some (.inl (K 3, 2, .inr (.inr (.inr (.inr (gp2 (ra i) (ra j))))))))) _ _ _
  refine v_ci (r_V C (c_addBeside_state l D B K (va_up _ pa (some (.inl (K 3, 2, .inr (.inr (.inr (.inr (gp2 (ra i) (ra j))))))))) q n na _ fi sg E ra kd (upn hpa h0) hT (hI.up (imm_none hI hpa)) [i, j] pa (gp2 (ra i) (ra j)) (va_up_self _ _ _) (Nat.le_of_ble_eq_true rfl) (gp2_ok ra i j) hjs hw9 (Nat.le_trans (fm_le (fun j9 h9 => (hT.2 j9 (hjs j9 h9)).2.1)) (Nat.le_of_ble_eq_true rfl))) dX8_pair_40 (upn hpa h0) rfl g_ml_X8_86 g_im_yX8_addBeside g_se_X8_yX8_addBeside_yX8_addBeside g_in_X8 g_cd_yX8_addBeside (rn_le (by decide)) (by decide) rfl rfl hdn_yX8_addBeside (Nat.le_of_ble_eq_true rfl) ⟨Nat.le_of_ble_eq_true rfl, Nat.le_of_ble_eq_true rfl⟩) (fun r_40 f_40 hp_40 => ?_)
  obtain ⟨rfl, rfl⟩ := hp_40
  exact v_iret C hr hlk dX8_pair_43 (Nat.le_of_ble_eq_true rfl) (Nat.le_of_ble_eq_true rfl) ⟨rfl, pa, _, hpa, rfl⟩

set_option maxHeartbeats 4000000 in
set_option maxRecDepth 100000 in
theorem c_pair_full (l : Launch) (D : va_G) (B : Nat) (K : Nat → ClassId) (f : St) (q : Nat → Nat) (n na : Nat) (g : Nat → Option Nat) (fi : St) (sg : Nat → Sg) (E : Nat → List Ent) (ra : Nat → Nat) (kd : Nat → Int32) (i j : Nat) (h0 : f (q 0) = some (.inr (6, [.ref (q 1), .ref (q 2), .ref (q 3), .ref (q 4), .ref (q 5), .ref (q 6), .int (nI n), .int (nI na)]))) (h4 : f (q 4) = some (.inl (K 3, 40, .inr (.inr (.inr (.inr (g))))))) (hn40 : n ≤ 40) (hT : RT K sg E ra kd fi n) (hI : Imm fi f) (hg : ∀ i, i < n → g i = some (ra i)) (hi : i < n) (hj : j < n) (hw9 : (([i, j] : List Nat).flatMap E).length ≤ 8) (hn : n = 40) : Kc l D B K yX8_pair cX8_pair 5 ((some .int)) 50 2 8 [.ref (q 0), .int (nI i), .int (nI j)] f (Qi_ D B (fun r f9 => r = -104 ∧ ∃ pa y9, f pa = none ∧ f9 = va_up f pa y9)) := by
  refine v_met [(0, .ref (q 0)), (1, .int (nI i)), (2, .int (nI j))] (by decide) (Nat.le_of_ble_eq_true rfl) rfl ?_
  intro p e s m args below meth c C hr hlk hin
  obtain ⟨cii, fsi, hcii, hcelli, hf0i, hf1i, hf2i, hf3i⟩ := RT_hdr (hT.2 i hi).1
  obtain ⟨cij, fsj, hcij, hcellj, hf0j, hf1j, hf2j, hf3j⟩ := RT_hdr (hT.2 j hj).1
  have hjs : ∀ j9 ∈ ([i, j] : List Nat), j9 < n := by simp only [List.forall_mem_cons]; exact ⟨hi, hj, fun _ h9 => nomatch h9⟩
  refine v_aload_n C dX8_pair_0 rfl rfl ?_
  refine v_iload_n C dX8_pair_1 rfl rfl ?_
  refine v_cq (r_V C (c_rangeOf_ok l D B K _ q n na g i (ra i) h0 h4 hi hn40 (hg i hi)) dX8_pair_2 h0 rfl g_ml_X8_71 g_im_yX8_rangeOf g_se_X8_yX8_rangeOf_yX8_rangeOf g_in_X8 g_cd_yX8_rangeOf (rn_le (by decide)) (by decide) rfl rfl hdn_yX8_rangeOf (Nat.le_of_ble_eq_true rfl) ⟨Nat.le_of_ble_eq_true rfl, Nat.le_of_ble_eq_true rfl⟩) (fun r_2 f_2 hp_2 => ?_)
  obtain ⟨rfl, rfl⟩ := hp_2
  refine v_rq rfl ?_
  refine v_astore_n C dX8_pair_5 rfl (by decide) rfl ?_
  refine v_aload_n C dX8_pair_6 rfl rfl ?_
  refine v_iload_n C dX8_pair_7 rfl rfl ?_
  refine v_cq (r_V C (c_rangeOf_ok l D B K _ q n na g j (ra j) h0 h4 hj hn40 (hg j hj)) dX8_pair_8 h0 rfl g_ml_X8_71 g_im_yX8_rangeOf g_se_X8_yX8_rangeOf_yX8_rangeOf g_in_X8 g_cd_yX8_rangeOf (rn_le (by decide)) (by decide) rfl rfl hdn_yX8_rangeOf (Nat.le_of_ble_eq_true rfl) ⟨Nat.le_of_ble_eq_true rfl, Nat.le_of_ble_eq_true rfl⟩) (fun r_8 f_8 hp_8 => ?_)
  obtain ⟨rfl, rfl⟩ := hp_8
  refine v_rq rfl ?_
  refine v_astore C dX8_pair_11 (by decide) rfl ?_
  refine v_aload_n C dX8_pair_13 rfl rfl ?_
  refine v_ifnull C dX8_pair_14 ?_
  refine v_aload C dX8_pair_17 rfl ?_
  refine v_ifnonnull (tgt := 25) C dX8_pair_19 (by decide) ?_
  refine v_aload_n C dX8_pair_25 rfl rfl ?_
  refine v_iconst (v := 5) C dX8_pair_26 (by decide) ?_
  refine v_iconst (v := 2) C dX8_pair_27 (by decide) ?_
  refine v_newq C dX8_pair_28 g_cl_X8_26 (by decide) rfl (by decide) (Nat.le_of_ble_eq_true rfl) (Nat.le_of_ble_eq_true rfl) (fun pa hpa => ?_)
  refine v_dup C dX8_pair_31 rfl ?_
  refine v_iconst (v := 0) C dX8_pair_32 (by decide) ?_
  refine v_aload_n C dX8_pair_33 rfl rfl ?_
  refine v_astR C dX8_pair_34 (va_up_self _ _ _) hcii (upn hpa (hI _ _ hcelli)) (vp_in_nI (n := 0) (by decide) (by decide)) ?_
  rw [bx_uu]
  refine v_dup C dX8_pair_35 rfl ?_
  refine v_iconst (v := 1) C dX8_pair_36 (by decide) ?_
  refine v_aload C dX8_pair_37 rfl ?_
  refine v_astR C dX8_pair_39 (va_up_self _ _ _) hcij (upn hpa (hI _ _ hcellj)) (vp_in_nI (n := 1) (by decide) (by decide)) ?_
  rw [bx_uu]
  show V p l e (RM 50 2 8) s m args below meth c D B 5 _ _ _ (va_up _ pa (some (.inl (K 3, 2, .inr (.inr (.inr (.inr (gp2 (ra i) (ra j))))))))) _ _ _
  refine v_ci (r_V C (c_addBeside_full l D B K (va_up _ pa (some (.inl (K 3, 2, .inr (.inr (.inr (.inr (gp2 (ra i) (ra j))))))))) q n na _ fi sg E ra kd (upn hpa h0) hT (hI.up (imm_none hI hpa)) [i, j] pa (gp2 (ra i) (ra j)) (va_up_self _ _ _) (Nat.le_of_ble_eq_true rfl) (gp2_ok ra i j) hjs hw9 hn) dX8_pair_40 (upn hpa h0) rfl g_ml_X8_86 g_im_yX8_addBeside g_se_X8_yX8_addBeside_yX8_addBeside g_in_X8 g_cd_yX8_addBeside (rn_le (by decide)) (by decide) rfl rfl hdn_yX8_addBeside (Nat.le_of_ble_eq_true rfl) ⟨Nat.le_of_ble_eq_true rfl, Nat.le_of_ble_eq_true rfl⟩) (fun r_40 f_40 hp_40 => ?_)
  obtain ⟨rfl, rfl⟩ := hp_40
  exact v_iret C hr hlk dX8_pair_43 (Nat.le_of_ble_eq_true rfl) (Nat.le_of_ble_eq_true rfl) ⟨rfl, pa, _, hpa, rfl⟩

set_option maxHeartbeats 4000000 in
set_option maxRecDepth 100000 in
theorem c_pair_new (l : Launch) (D : va_G) (B : Nat) (K : Nat → ClassId) (f : St) (q : Nat → Nat) (n na : Nat) (g : Nat → Option Nat) (fi : St) (sg : Nat → Sg) (E : Nat → List Ent) (ra : Nat → Nat) (kd : Nat → Int32) (i j : Nat) (h0 : f (q 0) = some (.inr (6, [.ref (q 1), .ref (q 2), .ref (q 3), .ref (q 4), .ref (q 5), .ref (q 6), .int (nI n), .int (nI na)]))) (h4 : f (q 4) = some (.inl (K 3, 40, .inr (.inr (.inr (.inr (g))))))) (hn40 : n ≤ 40) (hT : RT K sg E ra kd fi n) (hI : Imm fi f) (hg : ∀ i, i < n → g i = some (ra i)) (hi : i < n) (hj : j < n) (hq : ∀ i j, i < 15 → j < 15 → q i = q j → i = j) (hqs : ∀ j, j < 15 → ∃ x, f (q j) = some x) (hw9 : (([i, j] : List Nat).flatMap E).length ≤ 8) (hn : n < 40) : Kc l D B K yX8_pair cX8_pair 5 ((some .int)) 50 2 8 [.ref (q 0), .int (nI i), .int (nI j)] f (Qi_ D B (fun r f9 => r = nI n ∧ ∃ pa b9, f pa = none ∧ va_up f pa (some (.inl (K 3, 2, .inr (.inr (.inr (.inr (gp2 (ra i) (ra j)))))))) b9 = none ∧ f9 = addF K q (va_up (va_up f pa (some (.inl (K 3, 2, .inr (.inr (.inr (.inr (gp2 (ra i) (ra j))))))))) b9 (some (besE n 5 (nI (([i, j] : List Nat).flatMap E).length) (sat (prodE sg (([i, j] : List Nat).flatMap E))) pa))) n na g b9)) := by
  refine v_met [(0, .ref (q 0)), (1, .int (nI i)), (2, .int (nI j))] (by decide) (Nat.le_of_ble_eq_true rfl) rfl ?_
  intro p e s m args below meth c C hr hlk hin
  obtain ⟨cii, fsi, hcii, hcelli, hf0i, hf1i, hf2i, hf3i⟩ := RT_hdr (hT.2 i hi).1
  obtain ⟨cij, fsj, hcij, hcellj, hf0j, hf1j, hf2j, hf3j⟩ := RT_hdr (hT.2 j hj).1
  have hjs : ∀ j9 ∈ ([i, j] : List Nat), j9 < n := by simp only [List.forall_mem_cons]; exact ⟨hi, hj, fun _ h9 => nomatch h9⟩
  refine v_aload_n C dX8_pair_0 rfl rfl ?_
  refine v_iload_n C dX8_pair_1 rfl rfl ?_
  refine v_cq (r_V C (c_rangeOf_ok l D B K _ q n na g i (ra i) h0 h4 hi hn40 (hg i hi)) dX8_pair_2 h0 rfl g_ml_X8_71 g_im_yX8_rangeOf g_se_X8_yX8_rangeOf_yX8_rangeOf g_in_X8 g_cd_yX8_rangeOf (rn_le (by decide)) (by decide) rfl rfl hdn_yX8_rangeOf (Nat.le_of_ble_eq_true rfl) ⟨Nat.le_of_ble_eq_true rfl, Nat.le_of_ble_eq_true rfl⟩) (fun r_2 f_2 hp_2 => ?_)
  obtain ⟨rfl, rfl⟩ := hp_2
  refine v_rq rfl ?_
  refine v_astore_n C dX8_pair_5 rfl (by decide) rfl ?_
  refine v_aload_n C dX8_pair_6 rfl rfl ?_
  refine v_iload_n C dX8_pair_7 rfl rfl ?_
  refine v_cq (r_V C (c_rangeOf_ok l D B K _ q n na g j (ra j) h0 h4 hj hn40 (hg j hj)) dX8_pair_8 h0 rfl g_ml_X8_71 g_im_yX8_rangeOf g_se_X8_yX8_rangeOf_yX8_rangeOf g_in_X8 g_cd_yX8_rangeOf (rn_le (by decide)) (by decide) rfl rfl hdn_yX8_rangeOf (Nat.le_of_ble_eq_true rfl) ⟨Nat.le_of_ble_eq_true rfl, Nat.le_of_ble_eq_true rfl⟩) (fun r_8 f_8 hp_8 => ?_)
  obtain ⟨rfl, rfl⟩ := hp_8
  refine v_rq rfl ?_
  refine v_astore C dX8_pair_11 (by decide) rfl ?_
  refine v_aload_n C dX8_pair_13 rfl rfl ?_
  refine v_ifnull C dX8_pair_14 ?_
  refine v_aload C dX8_pair_17 rfl ?_
  refine v_ifnonnull (tgt := 25) C dX8_pair_19 (by decide) ?_
  refine v_aload_n C dX8_pair_25 rfl rfl ?_
  refine v_iconst (v := 5) C dX8_pair_26 (by decide) ?_
  refine v_iconst (v := 2) C dX8_pair_27 (by decide) ?_
  refine v_newq C dX8_pair_28 g_cl_X8_26 (by decide) rfl (by decide) (Nat.le_of_ble_eq_true rfl) (Nat.le_of_ble_eq_true rfl) (fun pa hpa => ?_)
  refine v_dup C dX8_pair_31 rfl ?_
  refine v_iconst (v := 0) C dX8_pair_32 (by decide) ?_
  refine v_aload_n C dX8_pair_33 rfl rfl ?_
  refine v_astR C dX8_pair_34 (va_up_self _ _ _) hcii (upn hpa (hI _ _ hcelli)) (vp_in_nI (n := 0) (by decide) (by decide)) ?_
  rw [bx_uu]
  refine v_dup C dX8_pair_35 rfl ?_
  refine v_iconst (v := 1) C dX8_pair_36 (by decide) ?_
  refine v_aload C dX8_pair_37 rfl ?_
  refine v_astR C dX8_pair_39 (va_up_self _ _ _) hcij (upn hpa (hI _ _ hcellj)) (vp_in_nI (n := 1) (by decide) (by decide)) ?_
  rw [bx_uu]
  show V p l e (RM 50 2 8) s m args below meth c D B 5 _ _ _ (va_up _ pa (some (.inl (K 3, 2, .inr (.inr (.inr (.inr (gp2 (ra i) (ra j))))))))) _ _ _
  refine v_ci (r_V C (c_addBeside_new l D B K (va_up _ pa (some (.inl (K 3, 2, .inr (.inr (.inr (.inr (gp2 (ra i) (ra j))))))))) q n na _ fi sg E ra kd (upn hpa h0) hT (hI.up (imm_none hI hpa)) [i, j] pa (gp2 (ra i) (ra j)) (va_up_self _ _ _) (Nat.le_of_ble_eq_true rfl) (gp2_ok ra i j) hjs g (upn hpa h4) hq (fun j9 h9 => by obtain ⟨x9, hx9⟩ := hqs j9 h9; exact ⟨x9, upn hpa hx9⟩) hw9 hn) dX8_pair_40 (upn hpa h0) rfl g_ml_X8_86 g_im_yX8_addBeside g_se_X8_yX8_addBeside_yX8_addBeside g_in_X8 g_cd_yX8_addBeside (rn_le (by decide)) (by decide) rfl rfl hdn_yX8_addBeside (Nat.le_of_ble_eq_true rfl) ⟨Nat.le_of_ble_eq_true rfl, Nat.le_of_ble_eq_true rfl⟩) (fun r_40 f_40 hp_40 => ?_)
  obtain ⟨rfl, b9, hb9, rfl⟩ := hp_40
  exact v_iret C hr hlk dX8_pair_43 (Nat.le_of_ble_eq_true rfl) (Nat.le_of_ble_eq_true rfl) ⟨rfl, pa, b9, hpa, hb9, rfl⟩

set_option maxHeartbeats 4000000 in
set_option maxRecDepth 100000 in
theorem c_triple_bad000 (l : Launch) (D : va_G) (B : Nat) (K : Nat → ClassId) (f : St) (q : Nat → Nat) (n na : Nat) (g : Nat → Option Nat) (fi : St) (sg : Nat → Sg) (E : Nat → List Ent) (ra : Nat → Nat) (kd : Nat → Int32) (x : Int32) (x2 : Int32) (x3 : Int32) (h0 : f (q 0) = some (.inr (6, [.ref (q 1), .ref (q 2), .ref (q 3), .ref (q 4), .ref (q 5), .ref (q 6), .int (nI n), .int (nI na)]))) (h4 : f (q 4) = some (.inl (K 3, 40, .inr (.inr (.inr (.inr (g))))))) (hn40 : n ≤ 40) (hT : RT K sg E ra kd fi n) (hI : Imm fi f) (hg : ∀ i, i < n → g i = some (ra i)) (hx : x < 0 ∨ nI n ≤ x) (hx2 : x2 < 0 ∨ nI n ≤ x2) (hx3 : x3 < 0 ∨ nI n ≤ x3) : Kc l D B K yX8_triple cX8_triple 7 ((some .int)) 50 2 8 [.ref (q 0), .int x, .int x2, .int x3] f (Qi_ D B (fun r f9 => r = -101 ∧ f9 = f)) := by
  refine v_met [(0, .ref (q 0)), (1, .int x), (2, .int x2), (3, .int x3)] (by decide) (Nat.le_of_ble_eq_true rfl) rfl ?_
  intro p e s m args below meth c C hr hlk hin
  refine v_aload_n C dX8_triple_0 rfl rfl ?_
  refine v_iload_n C dX8_triple_1 rfl rfl ?_
  refine v_cq (r_V C (c_rangeOf_bad l D B K _ q n na x h0 hx hn40) dX8_triple_2 h0 rfl g_ml_X8_71 g_im_yX8_rangeOf g_se_X8_yX8_rangeOf_yX8_rangeOf g_in_X8 g_cd_yX8_rangeOf (rn_le (by decide)) (by decide) rfl rfl hdn_yX8_rangeOf (Nat.le_of_ble_eq_true rfl) ⟨Nat.le_of_ble_eq_true rfl, Nat.le_of_ble_eq_true rfl⟩) (fun r_2 f_2 hp_2 => ?_)
  obtain ⟨rfl, rfl⟩ := hp_2
  refine v_rn rfl ?_
  refine v_astoreN C dX8_triple_5 (by decide) rfl ?_
  refine v_aload_n C dX8_triple_7 rfl rfl ?_
  refine v_iload_n C dX8_triple_8 rfl rfl ?_
  refine v_cq (r_V C (c_rangeOf_bad l D B K _ q n na x2 h0 hx2 hn40) dX8_triple_9 h0 rfl g_ml_X8_71 g_im_yX8_rangeOf g_se_X8_yX8_rangeOf_yX8_rangeOf g_in_X8 g_cd_yX8_rangeOf (rn_le (by decide)) (by decide) rfl rfl hdn_yX8_rangeOf (Nat.le_of_ble_eq_true rfl) ⟨Nat.le_of_ble_eq_true rfl, Nat.le_of_ble_eq_true rfl⟩) (fun r_9 f_9 hp_9 => ?_)
  obtain ⟨rfl, rfl⟩ := hp_9
  refine v_rn rfl ?_
  refine v_astoreN C dX8_triple_12 (by decide) rfl ?_
  refine v_aload_n C dX8_triple_14 rfl rfl ?_
  refine v_iload_n C dX8_triple_15 rfl rfl ?_
  refine v_cq (r_V C (c_rangeOf_bad l D B K _ q n na x3 h0 hx3 hn40) dX8_triple_16 h0 rfl g_ml_X8_71 g_im_yX8_rangeOf g_se_X8_yX8_rangeOf_yX8_rangeOf g_in_X8 g_cd_yX8_rangeOf (rn_le (by decide)) (by decide) rfl rfl hdn_yX8_rangeOf (Nat.le_of_ble_eq_true rfl) ⟨Nat.le_of_ble_eq_true rfl, Nat.le_of_ble_eq_true rfl⟩) (fun r_16 f_16 hp_16 => ?_)
  obtain ⟨rfl, rfl⟩ := hp_16
  refine v_rn rfl ?_
  refine v_astoreN C dX8_triple_19 (by decide) rfl ?_
  refine v_aloadN C dX8_triple_21 rfl ?_
  refine v_ifnullN (tgt := 36) C dX8_triple_23 (by decide) ?_
  refine v_bipush (v := (-101)) C dX8_triple_36 (by decide) ?_
  exact v_iret C hr hlk dX8_triple_38 (Nat.le_of_ble_eq_true rfl) (Nat.le_of_ble_eq_true rfl) ⟨rfl, rfl⟩

set_option maxHeartbeats 4000000 in
set_option maxRecDepth 100000 in
theorem c_triple_bad001 (l : Launch) (D : va_G) (B : Nat) (K : Nat → ClassId) (f : St) (q : Nat → Nat) (n na : Nat) (g : Nat → Option Nat) (fi : St) (sg : Nat → Sg) (E : Nat → List Ent) (ra : Nat → Nat) (kd : Nat → Int32) (x : Int32) (x2 : Int32) (k : Nat) (h0 : f (q 0) = some (.inr (6, [.ref (q 1), .ref (q 2), .ref (q 3), .ref (q 4), .ref (q 5), .ref (q 6), .int (nI n), .int (nI na)]))) (h4 : f (q 4) = some (.inl (K 3, 40, .inr (.inr (.inr (.inr (g))))))) (hn40 : n ≤ 40) (hT : RT K sg E ra kd fi n) (hI : Imm fi f) (hg : ∀ i, i < n → g i = some (ra i)) (hx : x < 0 ∨ nI n ≤ x) (hx2 : x2 < 0 ∨ nI n ≤ x2) (hk : k < n) : Kc l D B K yX8_triple cX8_triple 7 ((some .int)) 50 2 8 [.ref (q 0), .int x, .int x2, .int (nI k)] f (Qi_ D B (fun r f9 => r = -101 ∧ f9 = f)) := by
  refine v_met [(0, .ref (q 0)), (1, .int x), (2, .int x2), (3, .int (nI k))] (by decide) (Nat.le_of_ble_eq_true rfl) rfl ?_
  intro p e s m args below meth c C hr hlk hin
  refine v_aload_n C dX8_triple_0 rfl rfl ?_
  refine v_iload_n C dX8_triple_1 rfl rfl ?_
  refine v_cq (r_V C (c_rangeOf_bad l D B K _ q n na x h0 hx hn40) dX8_triple_2 h0 rfl g_ml_X8_71 g_im_yX8_rangeOf g_se_X8_yX8_rangeOf_yX8_rangeOf g_in_X8 g_cd_yX8_rangeOf (rn_le (by decide)) (by decide) rfl rfl hdn_yX8_rangeOf (Nat.le_of_ble_eq_true rfl) ⟨Nat.le_of_ble_eq_true rfl, Nat.le_of_ble_eq_true rfl⟩) (fun r_2 f_2 hp_2 => ?_)
  obtain ⟨rfl, rfl⟩ := hp_2
  refine v_rn rfl ?_
  refine v_astoreN C dX8_triple_5 (by decide) rfl ?_
  refine v_aload_n C dX8_triple_7 rfl rfl ?_
  refine v_iload_n C dX8_triple_8 rfl rfl ?_
  refine v_cq (r_V C (c_rangeOf_bad l D B K _ q n na x2 h0 hx2 hn40) dX8_triple_9 h0 rfl g_ml_X8_71 g_im_yX8_rangeOf g_se_X8_yX8_rangeOf_yX8_rangeOf g_in_X8 g_cd_yX8_rangeOf (rn_le (by decide)) (by decide) rfl rfl hdn_yX8_rangeOf (Nat.le_of_ble_eq_true rfl) ⟨Nat.le_of_ble_eq_true rfl, Nat.le_of_ble_eq_true rfl⟩) (fun r_9 f_9 hp_9 => ?_)
  obtain ⟨rfl, rfl⟩ := hp_9
  refine v_rn rfl ?_
  refine v_astoreN C dX8_triple_12 (by decide) rfl ?_
  refine v_aload_n C dX8_triple_14 rfl rfl ?_
  refine v_iload_n C dX8_triple_15 rfl rfl ?_
  refine v_cq (r_V C (c_rangeOf_ok l D B K _ q n na g k (ra k) h0 h4 hk hn40 (hg k hk)) dX8_triple_16 h0 rfl g_ml_X8_71 g_im_yX8_rangeOf g_se_X8_yX8_rangeOf_yX8_rangeOf g_in_X8 g_cd_yX8_rangeOf (rn_le (by decide)) (by decide) rfl rfl hdn_yX8_rangeOf (Nat.le_of_ble_eq_true rfl) ⟨Nat.le_of_ble_eq_true rfl, Nat.le_of_ble_eq_true rfl⟩) (fun r_16 f_16 hp_16 => ?_)
  obtain ⟨rfl, rfl⟩ := hp_16
  refine v_rq rfl ?_
  refine v_astore C dX8_triple_19 (by decide) rfl ?_
  refine v_aloadN C dX8_triple_21 rfl ?_
  refine v_ifnullN (tgt := 36) C dX8_triple_23 (by decide) ?_
  refine v_bipush (v := (-101)) C dX8_triple_36 (by decide) ?_
  exact v_iret C hr hlk dX8_triple_38 (Nat.le_of_ble_eq_true rfl) (Nat.le_of_ble_eq_true rfl) ⟨rfl, rfl⟩

set_option maxHeartbeats 4000000 in
set_option maxRecDepth 100000 in
theorem c_triple_bad010 (l : Launch) (D : va_G) (B : Nat) (K : Nat → ClassId) (f : St) (q : Nat → Nat) (n na : Nat) (g : Nat → Option Nat) (fi : St) (sg : Nat → Sg) (E : Nat → List Ent) (ra : Nat → Nat) (kd : Nat → Int32) (x : Int32) (j : Nat) (x3 : Int32) (h0 : f (q 0) = some (.inr (6, [.ref (q 1), .ref (q 2), .ref (q 3), .ref (q 4), .ref (q 5), .ref (q 6), .int (nI n), .int (nI na)]))) (h4 : f (q 4) = some (.inl (K 3, 40, .inr (.inr (.inr (.inr (g))))))) (hn40 : n ≤ 40) (hT : RT K sg E ra kd fi n) (hI : Imm fi f) (hg : ∀ i, i < n → g i = some (ra i)) (hx : x < 0 ∨ nI n ≤ x) (hj : j < n) (hx3 : x3 < 0 ∨ nI n ≤ x3) : Kc l D B K yX8_triple cX8_triple 7 ((some .int)) 50 2 8 [.ref (q 0), .int x, .int (nI j), .int x3] f (Qi_ D B (fun r f9 => r = -101 ∧ f9 = f)) := by
  refine v_met [(0, .ref (q 0)), (1, .int x), (2, .int (nI j)), (3, .int x3)] (by decide) (Nat.le_of_ble_eq_true rfl) rfl ?_
  intro p e s m args below meth c C hr hlk hin
  refine v_aload_n C dX8_triple_0 rfl rfl ?_
  refine v_iload_n C dX8_triple_1 rfl rfl ?_
  refine v_cq (r_V C (c_rangeOf_bad l D B K _ q n na x h0 hx hn40) dX8_triple_2 h0 rfl g_ml_X8_71 g_im_yX8_rangeOf g_se_X8_yX8_rangeOf_yX8_rangeOf g_in_X8 g_cd_yX8_rangeOf (rn_le (by decide)) (by decide) rfl rfl hdn_yX8_rangeOf (Nat.le_of_ble_eq_true rfl) ⟨Nat.le_of_ble_eq_true rfl, Nat.le_of_ble_eq_true rfl⟩) (fun r_2 f_2 hp_2 => ?_)
  obtain ⟨rfl, rfl⟩ := hp_2
  refine v_rn rfl ?_
  refine v_astoreN C dX8_triple_5 (by decide) rfl ?_
  refine v_aload_n C dX8_triple_7 rfl rfl ?_
  refine v_iload_n C dX8_triple_8 rfl rfl ?_
  refine v_cq (r_V C (c_rangeOf_ok l D B K _ q n na g j (ra j) h0 h4 hj hn40 (hg j hj)) dX8_triple_9 h0 rfl g_ml_X8_71 g_im_yX8_rangeOf g_se_X8_yX8_rangeOf_yX8_rangeOf g_in_X8 g_cd_yX8_rangeOf (rn_le (by decide)) (by decide) rfl rfl hdn_yX8_rangeOf (Nat.le_of_ble_eq_true rfl) ⟨Nat.le_of_ble_eq_true rfl, Nat.le_of_ble_eq_true rfl⟩) (fun r_9 f_9 hp_9 => ?_)
  obtain ⟨rfl, rfl⟩ := hp_9
  refine v_rq rfl ?_
  refine v_astore C dX8_triple_12 (by decide) rfl ?_
  refine v_aload_n C dX8_triple_14 rfl rfl ?_
  refine v_iload_n C dX8_triple_15 rfl rfl ?_
  refine v_cq (r_V C (c_rangeOf_bad l D B K _ q n na x3 h0 hx3 hn40) dX8_triple_16 h0 rfl g_ml_X8_71 g_im_yX8_rangeOf g_se_X8_yX8_rangeOf_yX8_rangeOf g_in_X8 g_cd_yX8_rangeOf (rn_le (by decide)) (by decide) rfl rfl hdn_yX8_rangeOf (Nat.le_of_ble_eq_true rfl) ⟨Nat.le_of_ble_eq_true rfl, Nat.le_of_ble_eq_true rfl⟩) (fun r_16 f_16 hp_16 => ?_)
  obtain ⟨rfl, rfl⟩ := hp_16
  refine v_rn rfl ?_
  refine v_astoreN C dX8_triple_19 (by decide) rfl ?_
  refine v_aloadN C dX8_triple_21 rfl ?_
  refine v_ifnullN (tgt := 36) C dX8_triple_23 (by decide) ?_
  refine v_bipush (v := (-101)) C dX8_triple_36 (by decide) ?_
  exact v_iret C hr hlk dX8_triple_38 (Nat.le_of_ble_eq_true rfl) (Nat.le_of_ble_eq_true rfl) ⟨rfl, rfl⟩

set_option maxHeartbeats 4000000 in
set_option maxRecDepth 100000 in
theorem c_triple_bad011 (l : Launch) (D : va_G) (B : Nat) (K : Nat → ClassId) (f : St) (q : Nat → Nat) (n na : Nat) (g : Nat → Option Nat) (fi : St) (sg : Nat → Sg) (E : Nat → List Ent) (ra : Nat → Nat) (kd : Nat → Int32) (x : Int32) (j : Nat) (k : Nat) (h0 : f (q 0) = some (.inr (6, [.ref (q 1), .ref (q 2), .ref (q 3), .ref (q 4), .ref (q 5), .ref (q 6), .int (nI n), .int (nI na)]))) (h4 : f (q 4) = some (.inl (K 3, 40, .inr (.inr (.inr (.inr (g))))))) (hn40 : n ≤ 40) (hT : RT K sg E ra kd fi n) (hI : Imm fi f) (hg : ∀ i, i < n → g i = some (ra i)) (hx : x < 0 ∨ nI n ≤ x) (hj : j < n) (hk : k < n) : Kc l D B K yX8_triple cX8_triple 7 ((some .int)) 50 2 8 [.ref (q 0), .int x, .int (nI j), .int (nI k)] f (Qi_ D B (fun r f9 => r = -101 ∧ f9 = f)) := by
  refine v_met [(0, .ref (q 0)), (1, .int x), (2, .int (nI j)), (3, .int (nI k))] (by decide) (Nat.le_of_ble_eq_true rfl) rfl ?_
  intro p e s m args below meth c C hr hlk hin
  refine v_aload_n C dX8_triple_0 rfl rfl ?_
  refine v_iload_n C dX8_triple_1 rfl rfl ?_
  refine v_cq (r_V C (c_rangeOf_bad l D B K _ q n na x h0 hx hn40) dX8_triple_2 h0 rfl g_ml_X8_71 g_im_yX8_rangeOf g_se_X8_yX8_rangeOf_yX8_rangeOf g_in_X8 g_cd_yX8_rangeOf (rn_le (by decide)) (by decide) rfl rfl hdn_yX8_rangeOf (Nat.le_of_ble_eq_true rfl) ⟨Nat.le_of_ble_eq_true rfl, Nat.le_of_ble_eq_true rfl⟩) (fun r_2 f_2 hp_2 => ?_)
  obtain ⟨rfl, rfl⟩ := hp_2
  refine v_rn rfl ?_
  refine v_astoreN C dX8_triple_5 (by decide) rfl ?_
  refine v_aload_n C dX8_triple_7 rfl rfl ?_
  refine v_iload_n C dX8_triple_8 rfl rfl ?_
  refine v_cq (r_V C (c_rangeOf_ok l D B K _ q n na g j (ra j) h0 h4 hj hn40 (hg j hj)) dX8_triple_9 h0 rfl g_ml_X8_71 g_im_yX8_rangeOf g_se_X8_yX8_rangeOf_yX8_rangeOf g_in_X8 g_cd_yX8_rangeOf (rn_le (by decide)) (by decide) rfl rfl hdn_yX8_rangeOf (Nat.le_of_ble_eq_true rfl) ⟨Nat.le_of_ble_eq_true rfl, Nat.le_of_ble_eq_true rfl⟩) (fun r_9 f_9 hp_9 => ?_)
  obtain ⟨rfl, rfl⟩ := hp_9
  refine v_rq rfl ?_
  refine v_astore C dX8_triple_12 (by decide) rfl ?_
  refine v_aload_n C dX8_triple_14 rfl rfl ?_
  refine v_iload_n C dX8_triple_15 rfl rfl ?_
  refine v_cq (r_V C (c_rangeOf_ok l D B K _ q n na g k (ra k) h0 h4 hk hn40 (hg k hk)) dX8_triple_16 h0 rfl g_ml_X8_71 g_im_yX8_rangeOf g_se_X8_yX8_rangeOf_yX8_rangeOf g_in_X8 g_cd_yX8_rangeOf (rn_le (by decide)) (by decide) rfl rfl hdn_yX8_rangeOf (Nat.le_of_ble_eq_true rfl) ⟨Nat.le_of_ble_eq_true rfl, Nat.le_of_ble_eq_true rfl⟩) (fun r_16 f_16 hp_16 => ?_)
  obtain ⟨rfl, rfl⟩ := hp_16
  refine v_rq rfl ?_
  refine v_astore C dX8_triple_19 (by decide) rfl ?_
  refine v_aloadN C dX8_triple_21 rfl ?_
  refine v_ifnullN (tgt := 36) C dX8_triple_23 (by decide) ?_
  refine v_bipush (v := (-101)) C dX8_triple_36 (by decide) ?_
  exact v_iret C hr hlk dX8_triple_38 (Nat.le_of_ble_eq_true rfl) (Nat.le_of_ble_eq_true rfl) ⟨rfl, rfl⟩

set_option maxHeartbeats 4000000 in
set_option maxRecDepth 100000 in
theorem c_triple_bad100 (l : Launch) (D : va_G) (B : Nat) (K : Nat → ClassId) (f : St) (q : Nat → Nat) (n na : Nat) (g : Nat → Option Nat) (fi : St) (sg : Nat → Sg) (E : Nat → List Ent) (ra : Nat → Nat) (kd : Nat → Int32) (i : Nat) (x2 : Int32) (x3 : Int32) (h0 : f (q 0) = some (.inr (6, [.ref (q 1), .ref (q 2), .ref (q 3), .ref (q 4), .ref (q 5), .ref (q 6), .int (nI n), .int (nI na)]))) (h4 : f (q 4) = some (.inl (K 3, 40, .inr (.inr (.inr (.inr (g))))))) (hn40 : n ≤ 40) (hT : RT K sg E ra kd fi n) (hI : Imm fi f) (hg : ∀ i, i < n → g i = some (ra i)) (hi : i < n) (hx2 : x2 < 0 ∨ nI n ≤ x2) (hx3 : x3 < 0 ∨ nI n ≤ x3) : Kc l D B K yX8_triple cX8_triple 7 ((some .int)) 50 2 8 [.ref (q 0), .int (nI i), .int x2, .int x3] f (Qi_ D B (fun r f9 => r = -101 ∧ f9 = f)) := by
  refine v_met [(0, .ref (q 0)), (1, .int (nI i)), (2, .int x2), (3, .int x3)] (by decide) (Nat.le_of_ble_eq_true rfl) rfl ?_
  intro p e s m args below meth c C hr hlk hin
  refine v_aload_n C dX8_triple_0 rfl rfl ?_
  refine v_iload_n C dX8_triple_1 rfl rfl ?_
  refine v_cq (r_V C (c_rangeOf_ok l D B K _ q n na g i (ra i) h0 h4 hi hn40 (hg i hi)) dX8_triple_2 h0 rfl g_ml_X8_71 g_im_yX8_rangeOf g_se_X8_yX8_rangeOf_yX8_rangeOf g_in_X8 g_cd_yX8_rangeOf (rn_le (by decide)) (by decide) rfl rfl hdn_yX8_rangeOf (Nat.le_of_ble_eq_true rfl) ⟨Nat.le_of_ble_eq_true rfl, Nat.le_of_ble_eq_true rfl⟩) (fun r_2 f_2 hp_2 => ?_)
  obtain ⟨rfl, rfl⟩ := hp_2
  refine v_rq rfl ?_
  refine v_astore C dX8_triple_5 (by decide) rfl ?_
  refine v_aload_n C dX8_triple_7 rfl rfl ?_
  refine v_iload_n C dX8_triple_8 rfl rfl ?_
  refine v_cq (r_V C (c_rangeOf_bad l D B K _ q n na x2 h0 hx2 hn40) dX8_triple_9 h0 rfl g_ml_X8_71 g_im_yX8_rangeOf g_se_X8_yX8_rangeOf_yX8_rangeOf g_in_X8 g_cd_yX8_rangeOf (rn_le (by decide)) (by decide) rfl rfl hdn_yX8_rangeOf (Nat.le_of_ble_eq_true rfl) ⟨Nat.le_of_ble_eq_true rfl, Nat.le_of_ble_eq_true rfl⟩) (fun r_9 f_9 hp_9 => ?_)
  obtain ⟨rfl, rfl⟩ := hp_9
  refine v_rn rfl ?_
  refine v_astoreN C dX8_triple_12 (by decide) rfl ?_
  refine v_aload_n C dX8_triple_14 rfl rfl ?_
  refine v_iload_n C dX8_triple_15 rfl rfl ?_
  refine v_cq (r_V C (c_rangeOf_bad l D B K _ q n na x3 h0 hx3 hn40) dX8_triple_16 h0 rfl g_ml_X8_71 g_im_yX8_rangeOf g_se_X8_yX8_rangeOf_yX8_rangeOf g_in_X8 g_cd_yX8_rangeOf (rn_le (by decide)) (by decide) rfl rfl hdn_yX8_rangeOf (Nat.le_of_ble_eq_true rfl) ⟨Nat.le_of_ble_eq_true rfl, Nat.le_of_ble_eq_true rfl⟩) (fun r_16 f_16 hp_16 => ?_)
  obtain ⟨rfl, rfl⟩ := hp_16
  refine v_rn rfl ?_
  refine v_astoreN C dX8_triple_19 (by decide) rfl ?_
  refine v_aload C dX8_triple_21 rfl ?_
  refine v_ifnull C dX8_triple_23 ?_
  refine v_aloadN C dX8_triple_26 rfl ?_
  refine v_ifnullN (tgt := 36) C dX8_triple_28 (by decide) ?_
  refine v_bipush (v := (-101)) C dX8_triple_36 (by decide) ?_
  exact v_iret C hr hlk dX8_triple_38 (Nat.le_of_ble_eq_true rfl) (Nat.le_of_ble_eq_true rfl) ⟨rfl, rfl⟩

set_option maxHeartbeats 4000000 in
set_option maxRecDepth 100000 in
theorem c_triple_bad101 (l : Launch) (D : va_G) (B : Nat) (K : Nat → ClassId) (f : St) (q : Nat → Nat) (n na : Nat) (g : Nat → Option Nat) (fi : St) (sg : Nat → Sg) (E : Nat → List Ent) (ra : Nat → Nat) (kd : Nat → Int32) (i : Nat) (x2 : Int32) (k : Nat) (h0 : f (q 0) = some (.inr (6, [.ref (q 1), .ref (q 2), .ref (q 3), .ref (q 4), .ref (q 5), .ref (q 6), .int (nI n), .int (nI na)]))) (h4 : f (q 4) = some (.inl (K 3, 40, .inr (.inr (.inr (.inr (g))))))) (hn40 : n ≤ 40) (hT : RT K sg E ra kd fi n) (hI : Imm fi f) (hg : ∀ i, i < n → g i = some (ra i)) (hi : i < n) (hx2 : x2 < 0 ∨ nI n ≤ x2) (hk : k < n) : Kc l D B K yX8_triple cX8_triple 7 ((some .int)) 50 2 8 [.ref (q 0), .int (nI i), .int x2, .int (nI k)] f (Qi_ D B (fun r f9 => r = -101 ∧ f9 = f)) := by
  refine v_met [(0, .ref (q 0)), (1, .int (nI i)), (2, .int x2), (3, .int (nI k))] (by decide) (Nat.le_of_ble_eq_true rfl) rfl ?_
  intro p e s m args below meth c C hr hlk hin
  refine v_aload_n C dX8_triple_0 rfl rfl ?_
  refine v_iload_n C dX8_triple_1 rfl rfl ?_
  refine v_cq (r_V C (c_rangeOf_ok l D B K _ q n na g i (ra i) h0 h4 hi hn40 (hg i hi)) dX8_triple_2 h0 rfl g_ml_X8_71 g_im_yX8_rangeOf g_se_X8_yX8_rangeOf_yX8_rangeOf g_in_X8 g_cd_yX8_rangeOf (rn_le (by decide)) (by decide) rfl rfl hdn_yX8_rangeOf (Nat.le_of_ble_eq_true rfl) ⟨Nat.le_of_ble_eq_true rfl, Nat.le_of_ble_eq_true rfl⟩) (fun r_2 f_2 hp_2 => ?_)
  obtain ⟨rfl, rfl⟩ := hp_2
  refine v_rq rfl ?_
  refine v_astore C dX8_triple_5 (by decide) rfl ?_
  refine v_aload_n C dX8_triple_7 rfl rfl ?_
  refine v_iload_n C dX8_triple_8 rfl rfl ?_
  refine v_cq (r_V C (c_rangeOf_bad l D B K _ q n na x2 h0 hx2 hn40) dX8_triple_9 h0 rfl g_ml_X8_71 g_im_yX8_rangeOf g_se_X8_yX8_rangeOf_yX8_rangeOf g_in_X8 g_cd_yX8_rangeOf (rn_le (by decide)) (by decide) rfl rfl hdn_yX8_rangeOf (Nat.le_of_ble_eq_true rfl) ⟨Nat.le_of_ble_eq_true rfl, Nat.le_of_ble_eq_true rfl⟩) (fun r_9 f_9 hp_9 => ?_)
  obtain ⟨rfl, rfl⟩ := hp_9
  refine v_rn rfl ?_
  refine v_astoreN C dX8_triple_12 (by decide) rfl ?_
  refine v_aload_n C dX8_triple_14 rfl rfl ?_
  refine v_iload_n C dX8_triple_15 rfl rfl ?_
  refine v_cq (r_V C (c_rangeOf_ok l D B K _ q n na g k (ra k) h0 h4 hk hn40 (hg k hk)) dX8_triple_16 h0 rfl g_ml_X8_71 g_im_yX8_rangeOf g_se_X8_yX8_rangeOf_yX8_rangeOf g_in_X8 g_cd_yX8_rangeOf (rn_le (by decide)) (by decide) rfl rfl hdn_yX8_rangeOf (Nat.le_of_ble_eq_true rfl) ⟨Nat.le_of_ble_eq_true rfl, Nat.le_of_ble_eq_true rfl⟩) (fun r_16 f_16 hp_16 => ?_)
  obtain ⟨rfl, rfl⟩ := hp_16
  refine v_rq rfl ?_
  refine v_astore C dX8_triple_19 (by decide) rfl ?_
  refine v_aload C dX8_triple_21 rfl ?_
  refine v_ifnull C dX8_triple_23 ?_
  refine v_aloadN C dX8_triple_26 rfl ?_
  refine v_ifnullN (tgt := 36) C dX8_triple_28 (by decide) ?_
  refine v_bipush (v := (-101)) C dX8_triple_36 (by decide) ?_
  exact v_iret C hr hlk dX8_triple_38 (Nat.le_of_ble_eq_true rfl) (Nat.le_of_ble_eq_true rfl) ⟨rfl, rfl⟩

set_option maxHeartbeats 4000000 in
set_option maxRecDepth 100000 in
theorem c_triple_bad110 (l : Launch) (D : va_G) (B : Nat) (K : Nat → ClassId) (f : St) (q : Nat → Nat) (n na : Nat) (g : Nat → Option Nat) (fi : St) (sg : Nat → Sg) (E : Nat → List Ent) (ra : Nat → Nat) (kd : Nat → Int32) (i : Nat) (j : Nat) (x3 : Int32) (h0 : f (q 0) = some (.inr (6, [.ref (q 1), .ref (q 2), .ref (q 3), .ref (q 4), .ref (q 5), .ref (q 6), .int (nI n), .int (nI na)]))) (h4 : f (q 4) = some (.inl (K 3, 40, .inr (.inr (.inr (.inr (g))))))) (hn40 : n ≤ 40) (hT : RT K sg E ra kd fi n) (hI : Imm fi f) (hg : ∀ i, i < n → g i = some (ra i)) (hi : i < n) (hj : j < n) (hx3 : x3 < 0 ∨ nI n ≤ x3) : Kc l D B K yX8_triple cX8_triple 7 ((some .int)) 50 2 8 [.ref (q 0), .int (nI i), .int (nI j), .int x3] f (Qi_ D B (fun r f9 => r = -101 ∧ f9 = f)) := by
  refine v_met [(0, .ref (q 0)), (1, .int (nI i)), (2, .int (nI j)), (3, .int x3)] (by decide) (Nat.le_of_ble_eq_true rfl) rfl ?_
  intro p e s m args below meth c C hr hlk hin
  refine v_aload_n C dX8_triple_0 rfl rfl ?_
  refine v_iload_n C dX8_triple_1 rfl rfl ?_
  refine v_cq (r_V C (c_rangeOf_ok l D B K _ q n na g i (ra i) h0 h4 hi hn40 (hg i hi)) dX8_triple_2 h0 rfl g_ml_X8_71 g_im_yX8_rangeOf g_se_X8_yX8_rangeOf_yX8_rangeOf g_in_X8 g_cd_yX8_rangeOf (rn_le (by decide)) (by decide) rfl rfl hdn_yX8_rangeOf (Nat.le_of_ble_eq_true rfl) ⟨Nat.le_of_ble_eq_true rfl, Nat.le_of_ble_eq_true rfl⟩) (fun r_2 f_2 hp_2 => ?_)
  obtain ⟨rfl, rfl⟩ := hp_2
  refine v_rq rfl ?_
  refine v_astore C dX8_triple_5 (by decide) rfl ?_
  refine v_aload_n C dX8_triple_7 rfl rfl ?_
  refine v_iload_n C dX8_triple_8 rfl rfl ?_
  refine v_cq (r_V C (c_rangeOf_ok l D B K _ q n na g j (ra j) h0 h4 hj hn40 (hg j hj)) dX8_triple_9 h0 rfl g_ml_X8_71 g_im_yX8_rangeOf g_se_X8_yX8_rangeOf_yX8_rangeOf g_in_X8 g_cd_yX8_rangeOf (rn_le (by decide)) (by decide) rfl rfl hdn_yX8_rangeOf (Nat.le_of_ble_eq_true rfl) ⟨Nat.le_of_ble_eq_true rfl, Nat.le_of_ble_eq_true rfl⟩) (fun r_9 f_9 hp_9 => ?_)
  obtain ⟨rfl, rfl⟩ := hp_9
  refine v_rq rfl ?_
  refine v_astore C dX8_triple_12 (by decide) rfl ?_
  refine v_aload_n C dX8_triple_14 rfl rfl ?_
  refine v_iload_n C dX8_triple_15 rfl rfl ?_
  refine v_cq (r_V C (c_rangeOf_bad l D B K _ q n na x3 h0 hx3 hn40) dX8_triple_16 h0 rfl g_ml_X8_71 g_im_yX8_rangeOf g_se_X8_yX8_rangeOf_yX8_rangeOf g_in_X8 g_cd_yX8_rangeOf (rn_le (by decide)) (by decide) rfl rfl hdn_yX8_rangeOf (Nat.le_of_ble_eq_true rfl) ⟨Nat.le_of_ble_eq_true rfl, Nat.le_of_ble_eq_true rfl⟩) (fun r_16 f_16 hp_16 => ?_)
  obtain ⟨rfl, rfl⟩ := hp_16
  refine v_rn rfl ?_
  refine v_astoreN C dX8_triple_19 (by decide) rfl ?_
  refine v_aload C dX8_triple_21 rfl ?_
  refine v_ifnull C dX8_triple_23 ?_
  refine v_aload C dX8_triple_26 rfl ?_
  refine v_ifnull C dX8_triple_28 ?_
  refine v_aloadN C dX8_triple_31 rfl ?_
  refine v_ifnonnullN C dX8_triple_33 ?_
  refine v_bipush (v := (-101)) C dX8_triple_36 (by decide) ?_
  exact v_iret C hr hlk dX8_triple_38 (Nat.le_of_ble_eq_true rfl) (Nat.le_of_ble_eq_true rfl) ⟨rfl, rfl⟩

set_option maxHeartbeats 4000000 in
set_option maxRecDepth 100000 in
theorem c_triple_state (l : Launch) (D : va_G) (B : Nat) (K : Nat → ClassId) (f : St) (q : Nat → Nat) (n na : Nat) (g : Nat → Option Nat) (fi : St) (sg : Nat → Sg) (E : Nat → List Ent) (ra : Nat → Nat) (kd : Nat → Int32) (i j k : Nat) (h0 : f (q 0) = some (.inr (6, [.ref (q 1), .ref (q 2), .ref (q 3), .ref (q 4), .ref (q 5), .ref (q 6), .int (nI n), .int (nI na)]))) (h4 : f (q 4) = some (.inl (K 3, 40, .inr (.inr (.inr (.inr (g))))))) (hn40 : n ≤ 40) (hT : RT K sg E ra kd fi n) (hI : Imm fi f) (hg : ∀ i, i < n → g i = some (ra i)) (hi : i < n) (hj : j < n) (hk : k < n) (hw9 : 8 < (([i, j, k] : List Nat).flatMap E).length) : Kc l D B K yX8_triple cX8_triple 7 ((some .int)) 50 2 8 [.ref (q 0), .int (nI i), .int (nI j), .int (nI k)] f (Qi_ D B (fun r f9 => r = -103 ∧ ∃ pa y9, f pa = none ∧ f9 = va_up f pa y9)) := by
  refine v_met [(0, .ref (q 0)), (1, .int (nI i)), (2, .int (nI j)), (3, .int (nI k))] (by decide) (Nat.le_of_ble_eq_true rfl) rfl ?_
  intro p e s m args below meth c C hr hlk hin
  obtain ⟨cii, fsi, hcii, hcelli, hf0i, hf1i, hf2i, hf3i⟩ := RT_hdr (hT.2 i hi).1
  obtain ⟨cij, fsj, hcij, hcellj, hf0j, hf1j, hf2j, hf3j⟩ := RT_hdr (hT.2 j hj).1
  obtain ⟨cik, fsk, hcik, hcellk, hf0k, hf1k, hf2k, hf3k⟩ := RT_hdr (hT.2 k hk).1
  have hjs : ∀ j9 ∈ ([i, j, k] : List Nat), j9 < n := by simp only [List.forall_mem_cons]; exact ⟨hi, hj, hk, fun _ h9 => nomatch h9⟩
  refine v_aload_n C dX8_triple_0 rfl rfl ?_
  refine v_iload_n C dX8_triple_1 rfl rfl ?_
  refine v_cq (r_V C (c_rangeOf_ok l D B K _ q n na g i (ra i) h0 h4 hi hn40 (hg i hi)) dX8_triple_2 h0 rfl g_ml_X8_71 g_im_yX8_rangeOf g_se_X8_yX8_rangeOf_yX8_rangeOf g_in_X8 g_cd_yX8_rangeOf (rn_le (by decide)) (by decide) rfl rfl hdn_yX8_rangeOf (Nat.le_of_ble_eq_true rfl) ⟨Nat.le_of_ble_eq_true rfl, Nat.le_of_ble_eq_true rfl⟩) (fun r_2 f_2 hp_2 => ?_)
  obtain ⟨rfl, rfl⟩ := hp_2
  refine v_rq rfl ?_
  refine v_astore C dX8_triple_5 (by decide) rfl ?_
  refine v_aload_n C dX8_triple_7 rfl rfl ?_
  refine v_iload_n C dX8_triple_8 rfl rfl ?_
  refine v_cq (r_V C (c_rangeOf_ok l D B K _ q n na g j (ra j) h0 h4 hj hn40 (hg j hj)) dX8_triple_9 h0 rfl g_ml_X8_71 g_im_yX8_rangeOf g_se_X8_yX8_rangeOf_yX8_rangeOf g_in_X8 g_cd_yX8_rangeOf (rn_le (by decide)) (by decide) rfl rfl hdn_yX8_rangeOf (Nat.le_of_ble_eq_true rfl) ⟨Nat.le_of_ble_eq_true rfl, Nat.le_of_ble_eq_true rfl⟩) (fun r_9 f_9 hp_9 => ?_)
  obtain ⟨rfl, rfl⟩ := hp_9
  refine v_rq rfl ?_
  refine v_astore C dX8_triple_12 (by decide) rfl ?_
  refine v_aload_n C dX8_triple_14 rfl rfl ?_
  refine v_iload_n C dX8_triple_15 rfl rfl ?_
  refine v_cq (r_V C (c_rangeOf_ok l D B K _ q n na g k (ra k) h0 h4 hk hn40 (hg k hk)) dX8_triple_16 h0 rfl g_ml_X8_71 g_im_yX8_rangeOf g_se_X8_yX8_rangeOf_yX8_rangeOf g_in_X8 g_cd_yX8_rangeOf (rn_le (by decide)) (by decide) rfl rfl hdn_yX8_rangeOf (Nat.le_of_ble_eq_true rfl) ⟨Nat.le_of_ble_eq_true rfl, Nat.le_of_ble_eq_true rfl⟩) (fun r_16 f_16 hp_16 => ?_)
  obtain ⟨rfl, rfl⟩ := hp_16
  refine v_rq rfl ?_
  refine v_astore C dX8_triple_19 (by decide) rfl ?_
  refine v_aload C dX8_triple_21 rfl ?_
  refine v_ifnull C dX8_triple_23 ?_
  refine v_aload C dX8_triple_26 rfl ?_
  refine v_ifnull C dX8_triple_28 ?_
  refine v_aload C dX8_triple_31 rfl ?_
  refine v_ifnonnull (tgt := 39) C dX8_triple_33 (by decide) ?_
  refine v_aload_n C dX8_triple_39 rfl rfl ?_
  refine v_bipush (v := 6) C dX8_triple_40 (by decide) ?_
  refine v_iconst (v := 3) C dX8_triple_42 (by decide) ?_
  refine v_newq C dX8_triple_43 g_cl_X8_26 (by decide) rfl (by decide) (Nat.le_of_ble_eq_true rfl) (Nat.le_of_ble_eq_true rfl) (fun pa hpa => ?_)
  refine v_dup C dX8_triple_46 rfl ?_
  refine v_iconst (v := 0) C dX8_triple_47 (by decide) ?_
  refine v_aload C dX8_triple_48 rfl ?_
  refine v_astR C dX8_triple_50 (va_up_self _ _ _) hcii (upn hpa (hI _ _ hcelli)) (vp_in_nI (n := 0) (by decide) (by decide)) ?_
  rw [bx_uu]
  refine v_dup C dX8_triple_51 rfl ?_
  refine v_iconst (v := 1) C dX8_triple_52 (by decide) ?_
  refine v_aload C dX8_triple_53 rfl ?_
  refine v_astR C dX8_triple_55 (va_up_self _ _ _) hcij (upn hpa (hI _ _ hcellj)) (vp_in_nI (n := 1) (by decide) (by decide)) ?_
  rw [bx_uu]
  refine v_dup C dX8_triple_56 rfl ?_
  refine v_iconst (v := 2) C dX8_triple_57 (by decide) ?_
  refine v_aload C dX8_triple_58 rfl ?_
  refine v_astR C dX8_triple_60 (va_up_self _ _ _) hcik (upn hpa (hI _ _ hcellk)) (vp_in_nI (n := 2) (by decide) (by decide)) ?_
  rw [bx_uu]
  show V p l e (RM 50 2 8) s m args below meth c D B 7 _ _ _ (va_up _ pa (some (.inl (K 3, 3, .inr (.inr (.inr (.inr (gp3 (ra i) (ra j) (ra k))))))))) _ _ _
  refine v_ci (r_V C (c_addBeside_state l D B K (va_up _ pa (some (.inl (K 3, 3, .inr (.inr (.inr (.inr (gp3 (ra i) (ra j) (ra k))))))))) q n na _ fi sg E ra kd (upn hpa h0) hT (hI.up (imm_none hI hpa)) [i, j, k] pa (gp3 (ra i) (ra j) (ra k)) (va_up_self _ _ _) (Nat.le_of_ble_eq_true rfl) (gp3_ok ra i j k) hjs hw9 (Nat.le_trans (fm_le (fun j9 h9 => (hT.2 j9 (hjs j9 h9)).2.1)) (Nat.le_of_ble_eq_true rfl))) dX8_triple_61 (upn hpa h0) rfl g_ml_X8_86 g_im_yX8_addBeside g_se_X8_yX8_addBeside_yX8_addBeside g_in_X8 g_cd_yX8_addBeside (rn_le (by decide)) (by decide) rfl rfl hdn_yX8_addBeside (Nat.le_of_ble_eq_true rfl) ⟨Nat.le_of_ble_eq_true rfl, Nat.le_of_ble_eq_true rfl⟩) (fun r_61 f_61 hp_61 => ?_)
  obtain ⟨rfl, rfl⟩ := hp_61
  exact v_iret C hr hlk dX8_triple_64 (Nat.le_of_ble_eq_true rfl) (Nat.le_of_ble_eq_true rfl) ⟨rfl, pa, _, hpa, rfl⟩

set_option maxHeartbeats 4000000 in
set_option maxRecDepth 100000 in
theorem c_triple_full (l : Launch) (D : va_G) (B : Nat) (K : Nat → ClassId) (f : St) (q : Nat → Nat) (n na : Nat) (g : Nat → Option Nat) (fi : St) (sg : Nat → Sg) (E : Nat → List Ent) (ra : Nat → Nat) (kd : Nat → Int32) (i j k : Nat) (h0 : f (q 0) = some (.inr (6, [.ref (q 1), .ref (q 2), .ref (q 3), .ref (q 4), .ref (q 5), .ref (q 6), .int (nI n), .int (nI na)]))) (h4 : f (q 4) = some (.inl (K 3, 40, .inr (.inr (.inr (.inr (g))))))) (hn40 : n ≤ 40) (hT : RT K sg E ra kd fi n) (hI : Imm fi f) (hg : ∀ i, i < n → g i = some (ra i)) (hi : i < n) (hj : j < n) (hk : k < n) (hw9 : (([i, j, k] : List Nat).flatMap E).length ≤ 8) (hn : n = 40) : Kc l D B K yX8_triple cX8_triple 7 ((some .int)) 50 2 8 [.ref (q 0), .int (nI i), .int (nI j), .int (nI k)] f (Qi_ D B (fun r f9 => r = -104 ∧ ∃ pa y9, f pa = none ∧ f9 = va_up f pa y9)) := by
  refine v_met [(0, .ref (q 0)), (1, .int (nI i)), (2, .int (nI j)), (3, .int (nI k))] (by decide) (Nat.le_of_ble_eq_true rfl) rfl ?_
  intro p e s m args below meth c C hr hlk hin
  obtain ⟨cii, fsi, hcii, hcelli, hf0i, hf1i, hf2i, hf3i⟩ := RT_hdr (hT.2 i hi).1
  obtain ⟨cij, fsj, hcij, hcellj, hf0j, hf1j, hf2j, hf3j⟩ := RT_hdr (hT.2 j hj).1
  obtain ⟨cik, fsk, hcik, hcellk, hf0k, hf1k, hf2k, hf3k⟩ := RT_hdr (hT.2 k hk).1
  have hjs : ∀ j9 ∈ ([i, j, k] : List Nat), j9 < n := by simp only [List.forall_mem_cons]; exact ⟨hi, hj, hk, fun _ h9 => nomatch h9⟩
  refine v_aload_n C dX8_triple_0 rfl rfl ?_
  refine v_iload_n C dX8_triple_1 rfl rfl ?_
  refine v_cq (r_V C (c_rangeOf_ok l D B K _ q n na g i (ra i) h0 h4 hi hn40 (hg i hi)) dX8_triple_2 h0 rfl g_ml_X8_71 g_im_yX8_rangeOf g_se_X8_yX8_rangeOf_yX8_rangeOf g_in_X8 g_cd_yX8_rangeOf (rn_le (by decide)) (by decide) rfl rfl hdn_yX8_rangeOf (Nat.le_of_ble_eq_true rfl) ⟨Nat.le_of_ble_eq_true rfl, Nat.le_of_ble_eq_true rfl⟩) (fun r_2 f_2 hp_2 => ?_)
  obtain ⟨rfl, rfl⟩ := hp_2
  refine v_rq rfl ?_
  refine v_astore C dX8_triple_5 (by decide) rfl ?_
  refine v_aload_n C dX8_triple_7 rfl rfl ?_
  refine v_iload_n C dX8_triple_8 rfl rfl ?_
  refine v_cq (r_V C (c_rangeOf_ok l D B K _ q n na g j (ra j) h0 h4 hj hn40 (hg j hj)) dX8_triple_9 h0 rfl g_ml_X8_71 g_im_yX8_rangeOf g_se_X8_yX8_rangeOf_yX8_rangeOf g_in_X8 g_cd_yX8_rangeOf (rn_le (by decide)) (by decide) rfl rfl hdn_yX8_rangeOf (Nat.le_of_ble_eq_true rfl) ⟨Nat.le_of_ble_eq_true rfl, Nat.le_of_ble_eq_true rfl⟩) (fun r_9 f_9 hp_9 => ?_)
  obtain ⟨rfl, rfl⟩ := hp_9
  refine v_rq rfl ?_
  refine v_astore C dX8_triple_12 (by decide) rfl ?_
  refine v_aload_n C dX8_triple_14 rfl rfl ?_
  refine v_iload_n C dX8_triple_15 rfl rfl ?_
  refine v_cq (r_V C (c_rangeOf_ok l D B K _ q n na g k (ra k) h0 h4 hk hn40 (hg k hk)) dX8_triple_16 h0 rfl g_ml_X8_71 g_im_yX8_rangeOf g_se_X8_yX8_rangeOf_yX8_rangeOf g_in_X8 g_cd_yX8_rangeOf (rn_le (by decide)) (by decide) rfl rfl hdn_yX8_rangeOf (Nat.le_of_ble_eq_true rfl) ⟨Nat.le_of_ble_eq_true rfl, Nat.le_of_ble_eq_true rfl⟩) (fun r_16 f_16 hp_16 => ?_)
  obtain ⟨rfl, rfl⟩ := hp_16
  refine v_rq rfl ?_
  refine v_astore C dX8_triple_19 (by decide) rfl ?_
  refine v_aload C dX8_triple_21 rfl ?_
  refine v_ifnull C dX8_triple_23 ?_
  refine v_aload C dX8_triple_26 rfl ?_
  refine v_ifnull C dX8_triple_28 ?_
  refine v_aload C dX8_triple_31 rfl ?_
  refine v_ifnonnull (tgt := 39) C dX8_triple_33 (by decide) ?_
  refine v_aload_n C dX8_triple_39 rfl rfl ?_
  refine v_bipush (v := 6) C dX8_triple_40 (by decide) ?_
  refine v_iconst (v := 3) C dX8_triple_42 (by decide) ?_
  refine v_newq C dX8_triple_43 g_cl_X8_26 (by decide) rfl (by decide) (Nat.le_of_ble_eq_true rfl) (Nat.le_of_ble_eq_true rfl) (fun pa hpa => ?_)
  refine v_dup C dX8_triple_46 rfl ?_
  refine v_iconst (v := 0) C dX8_triple_47 (by decide) ?_
  refine v_aload C dX8_triple_48 rfl ?_
  refine v_astR C dX8_triple_50 (va_up_self _ _ _) hcii (upn hpa (hI _ _ hcelli)) (vp_in_nI (n := 0) (by decide) (by decide)) ?_
  rw [bx_uu]
  refine v_dup C dX8_triple_51 rfl ?_
  refine v_iconst (v := 1) C dX8_triple_52 (by decide) ?_
  refine v_aload C dX8_triple_53 rfl ?_
  refine v_astR C dX8_triple_55 (va_up_self _ _ _) hcij (upn hpa (hI _ _ hcellj)) (vp_in_nI (n := 1) (by decide) (by decide)) ?_
  rw [bx_uu]
  refine v_dup C dX8_triple_56 rfl ?_
  refine v_iconst (v := 2) C dX8_triple_57 (by decide) ?_
  refine v_aload C dX8_triple_58 rfl ?_
  refine v_astR C dX8_triple_60 (va_up_self _ _ _) hcik (upn hpa (hI _ _ hcellk)) (vp_in_nI (n := 2) (by decide) (by decide)) ?_
  rw [bx_uu]
  show V p l e (RM 50 2 8) s m args below meth c D B 7 _ _ _ (va_up _ pa (some (.inl (K 3, 3, .inr (.inr (.inr (.inr (gp3 (ra i) (ra j) (ra k))))))))) _ _ _
  refine v_ci (r_V C (c_addBeside_full l D B K (va_up _ pa (some (.inl (K 3, 3, .inr (.inr (.inr (.inr (gp3 (ra i) (ra j) (ra k))))))))) q n na _ fi sg E ra kd (upn hpa h0) hT (hI.up (imm_none hI hpa)) [i, j, k] pa (gp3 (ra i) (ra j) (ra k)) (va_up_self _ _ _) (Nat.le_of_ble_eq_true rfl) (gp3_ok ra i j k) hjs hw9 hn) dX8_triple_61 (upn hpa h0) rfl g_ml_X8_86 g_im_yX8_addBeside g_se_X8_yX8_addBeside_yX8_addBeside g_in_X8 g_cd_yX8_addBeside (rn_le (by decide)) (by decide) rfl rfl hdn_yX8_addBeside (Nat.le_of_ble_eq_true rfl) ⟨Nat.le_of_ble_eq_true rfl, Nat.le_of_ble_eq_true rfl⟩) (fun r_61 f_61 hp_61 => ?_)
  obtain ⟨rfl, rfl⟩ := hp_61
  exact v_iret C hr hlk dX8_triple_64 (Nat.le_of_ble_eq_true rfl) (Nat.le_of_ble_eq_true rfl) ⟨rfl, pa, _, hpa, rfl⟩

set_option maxHeartbeats 4000000 in
set_option maxRecDepth 100000 in
theorem c_triple_new (l : Launch) (D : va_G) (B : Nat) (K : Nat → ClassId) (f : St) (q : Nat → Nat) (n na : Nat) (g : Nat → Option Nat) (fi : St) (sg : Nat → Sg) (E : Nat → List Ent) (ra : Nat → Nat) (kd : Nat → Int32) (i j k : Nat) (h0 : f (q 0) = some (.inr (6, [.ref (q 1), .ref (q 2), .ref (q 3), .ref (q 4), .ref (q 5), .ref (q 6), .int (nI n), .int (nI na)]))) (h4 : f (q 4) = some (.inl (K 3, 40, .inr (.inr (.inr (.inr (g))))))) (hn40 : n ≤ 40) (hT : RT K sg E ra kd fi n) (hI : Imm fi f) (hg : ∀ i, i < n → g i = some (ra i)) (hi : i < n) (hj : j < n) (hk : k < n) (hq : ∀ i j, i < 15 → j < 15 → q i = q j → i = j) (hqs : ∀ j, j < 15 → ∃ x, f (q j) = some x) (hw9 : (([i, j, k] : List Nat).flatMap E).length ≤ 8) (hn : n < 40) : Kc l D B K yX8_triple cX8_triple 7 ((some .int)) 50 2 8 [.ref (q 0), .int (nI i), .int (nI j), .int (nI k)] f (Qi_ D B (fun r f9 => r = nI n ∧ ∃ pa b9, f pa = none ∧ va_up f pa (some (.inl (K 3, 3, .inr (.inr (.inr (.inr (gp3 (ra i) (ra j) (ra k)))))))) b9 = none ∧ f9 = addF K q (va_up (va_up f pa (some (.inl (K 3, 3, .inr (.inr (.inr (.inr (gp3 (ra i) (ra j) (ra k))))))))) b9 (some (besE n 6 (nI (([i, j, k] : List Nat).flatMap E).length) (sat (prodE sg (([i, j, k] : List Nat).flatMap E))) pa))) n na g b9)) := by
  refine v_met [(0, .ref (q 0)), (1, .int (nI i)), (2, .int (nI j)), (3, .int (nI k))] (by decide) (Nat.le_of_ble_eq_true rfl) rfl ?_
  intro p e s m args below meth c C hr hlk hin
  obtain ⟨cii, fsi, hcii, hcelli, hf0i, hf1i, hf2i, hf3i⟩ := RT_hdr (hT.2 i hi).1
  obtain ⟨cij, fsj, hcij, hcellj, hf0j, hf1j, hf2j, hf3j⟩ := RT_hdr (hT.2 j hj).1
  obtain ⟨cik, fsk, hcik, hcellk, hf0k, hf1k, hf2k, hf3k⟩ := RT_hdr (hT.2 k hk).1
  have hjs : ∀ j9 ∈ ([i, j, k] : List Nat), j9 < n := by simp only [List.forall_mem_cons]; exact ⟨hi, hj, hk, fun _ h9 => nomatch h9⟩
  refine v_aload_n C dX8_triple_0 rfl rfl ?_
  refine v_iload_n C dX8_triple_1 rfl rfl ?_
  refine v_cq (r_V C (c_rangeOf_ok l D B K _ q n na g i (ra i) h0 h4 hi hn40 (hg i hi)) dX8_triple_2 h0 rfl g_ml_X8_71 g_im_yX8_rangeOf g_se_X8_yX8_rangeOf_yX8_rangeOf g_in_X8 g_cd_yX8_rangeOf (rn_le (by decide)) (by decide) rfl rfl hdn_yX8_rangeOf (Nat.le_of_ble_eq_true rfl) ⟨Nat.le_of_ble_eq_true rfl, Nat.le_of_ble_eq_true rfl⟩) (fun r_2 f_2 hp_2 => ?_)
  obtain ⟨rfl, rfl⟩ := hp_2
  refine v_rq rfl ?_
  refine v_astore C dX8_triple_5 (by decide) rfl ?_
  refine v_aload_n C dX8_triple_7 rfl rfl ?_
  refine v_iload_n C dX8_triple_8 rfl rfl ?_
  refine v_cq (r_V C (c_rangeOf_ok l D B K _ q n na g j (ra j) h0 h4 hj hn40 (hg j hj)) dX8_triple_9 h0 rfl g_ml_X8_71 g_im_yX8_rangeOf g_se_X8_yX8_rangeOf_yX8_rangeOf g_in_X8 g_cd_yX8_rangeOf (rn_le (by decide)) (by decide) rfl rfl hdn_yX8_rangeOf (Nat.le_of_ble_eq_true rfl) ⟨Nat.le_of_ble_eq_true rfl, Nat.le_of_ble_eq_true rfl⟩) (fun r_9 f_9 hp_9 => ?_)
  obtain ⟨rfl, rfl⟩ := hp_9
  refine v_rq rfl ?_
  refine v_astore C dX8_triple_12 (by decide) rfl ?_
  refine v_aload_n C dX8_triple_14 rfl rfl ?_
  refine v_iload_n C dX8_triple_15 rfl rfl ?_
  refine v_cq (r_V C (c_rangeOf_ok l D B K _ q n na g k (ra k) h0 h4 hk hn40 (hg k hk)) dX8_triple_16 h0 rfl g_ml_X8_71 g_im_yX8_rangeOf g_se_X8_yX8_rangeOf_yX8_rangeOf g_in_X8 g_cd_yX8_rangeOf (rn_le (by decide)) (by decide) rfl rfl hdn_yX8_rangeOf (Nat.le_of_ble_eq_true rfl) ⟨Nat.le_of_ble_eq_true rfl, Nat.le_of_ble_eq_true rfl⟩) (fun r_16 f_16 hp_16 => ?_)
  obtain ⟨rfl, rfl⟩ := hp_16
  refine v_rq rfl ?_
  refine v_astore C dX8_triple_19 (by decide) rfl ?_
  refine v_aload C dX8_triple_21 rfl ?_
  refine v_ifnull C dX8_triple_23 ?_
  refine v_aload C dX8_triple_26 rfl ?_
  refine v_ifnull C dX8_triple_28 ?_
  refine v_aload C dX8_triple_31 rfl ?_
  refine v_ifnonnull (tgt := 39) C dX8_triple_33 (by decide) ?_
  refine v_aload_n C dX8_triple_39 rfl rfl ?_
  refine v_bipush (v := 6) C dX8_triple_40 (by decide) ?_
  refine v_iconst (v := 3) C dX8_triple_42 (by decide) ?_
  refine v_newq C dX8_triple_43 g_cl_X8_26 (by decide) rfl (by decide) (Nat.le_of_ble_eq_true rfl) (Nat.le_of_ble_eq_true rfl) (fun pa hpa => ?_)
  refine v_dup C dX8_triple_46 rfl ?_
  refine v_iconst (v := 0) C dX8_triple_47 (by decide) ?_
  refine v_aload C dX8_triple_48 rfl ?_
  refine v_astR C dX8_triple_50 (va_up_self _ _ _) hcii (upn hpa (hI _ _ hcelli)) (vp_in_nI (n := 0) (by decide) (by decide)) ?_
  rw [bx_uu]
  refine v_dup C dX8_triple_51 rfl ?_
  refine v_iconst (v := 1) C dX8_triple_52 (by decide) ?_
  refine v_aload C dX8_triple_53 rfl ?_
  refine v_astR C dX8_triple_55 (va_up_self _ _ _) hcij (upn hpa (hI _ _ hcellj)) (vp_in_nI (n := 1) (by decide) (by decide)) ?_
  rw [bx_uu]
  refine v_dup C dX8_triple_56 rfl ?_
  refine v_iconst (v := 2) C dX8_triple_57 (by decide) ?_
  refine v_aload C dX8_triple_58 rfl ?_
  refine v_astR C dX8_triple_60 (va_up_self _ _ _) hcik (upn hpa (hI _ _ hcellk)) (vp_in_nI (n := 2) (by decide) (by decide)) ?_
  rw [bx_uu]
  show V p l e (RM 50 2 8) s m args below meth c D B 7 _ _ _ (va_up _ pa (some (.inl (K 3, 3, .inr (.inr (.inr (.inr (gp3 (ra i) (ra j) (ra k))))))))) _ _ _
  refine v_ci (r_V C (c_addBeside_new l D B K (va_up _ pa (some (.inl (K 3, 3, .inr (.inr (.inr (.inr (gp3 (ra i) (ra j) (ra k))))))))) q n na _ fi sg E ra kd (upn hpa h0) hT (hI.up (imm_none hI hpa)) [i, j, k] pa (gp3 (ra i) (ra j) (ra k)) (va_up_self _ _ _) (Nat.le_of_ble_eq_true rfl) (gp3_ok ra i j k) hjs g (upn hpa h4) hq (fun j9 h9 => by obtain ⟨x9, hx9⟩ := hqs j9 h9; exact ⟨x9, upn hpa hx9⟩) hw9 hn) dX8_triple_61 (upn hpa h0) rfl g_ml_X8_86 g_im_yX8_addBeside g_se_X8_yX8_addBeside_yX8_addBeside g_in_X8 g_cd_yX8_addBeside (rn_le (by decide)) (by decide) rfl rfl hdn_yX8_addBeside (Nat.le_of_ble_eq_true rfl) ⟨Nat.le_of_ble_eq_true rfl, Nat.le_of_ble_eq_true rfl⟩) (fun r_61 f_61 hp_61 => ?_)
  obtain ⟨rfl, b9, hb9, rfl⟩ := hp_61
  exact v_iret C hr hlk dX8_triple_64 (Nat.le_of_ble_eq_true rfl) (Nat.le_of_ble_eq_true rfl) ⟨rfl, pa, b9, hpa, hb9, rfl⟩

